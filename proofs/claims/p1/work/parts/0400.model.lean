theorem dX11_in_0 : decode cX11_in 0 = .ok (.iload_n 0, 1) := by decide +kernel
theorem dX11_in_1 : decode cX11_in 1 = .ok (.iload_n 1, 1) := by decide +kernel
theorem dX11_in_2 : decode cX11_in 2 = .ok (.if_icmp .lt 12, 3) := by decide +kernel
theorem dX11_in_5 : decode cX11_in 5 = .ok (.iload_n 0, 1) := by decide +kernel
theorem dX11_in_6 : decode cX11_in 6 = .ok (.iload_n 2, 1) := by decide +kernel
theorem dX11_in_7 : decode cX11_in 7 = .ok (.if_icmp .gt 7, 3) := by decide +kernel
theorem dX11_in_10 : decode cX11_in 10 = .ok (.iconst 1, 1) := by decide +kernel
theorem dX11_in_11 : decode cX11_in 11 = .ok (.goto 4, 3) := by decide +kernel
theorem dX11_in_14 : decode cX11_in 14 = .ok (.iconst 0, 1) := by decide +kernel
theorem dX11_in_15 : decode cX11_in 15 = .ok (.ireturn, 1) := by decide +kernel
theorem dX11_bits_0 : decode cX11_bits 0 = .ok (.iconst 0, 1) := by decide +kernel
theorem dX11_bits_1 : decode cX11_bits 1 = .ok (.istore_n 1, 1) := by decide +kernel
theorem dX11_bits_2 : decode cX11_bits 2 = .ok (.iconst 0, 1) := by decide +kernel
theorem dX11_bits_3 : decode cX11_bits 3 = .ok (.istore_n 2, 1) := by decide +kernel
theorem dX11_bits_4 : decode cX11_bits 4 = .ok (.iload_n 2, 1) := by decide +kernel
theorem dX11_bits_5 : decode cX11_bits 5 = .ok (.bipush 6, 2) := by decide +kernel
theorem dX11_bits_7 : decode cX11_bits 7 = .ok (.if_icmp .ge 17, 3) := by decide +kernel
theorem dX11_bits_10 : decode cX11_bits 10 = .ok (.iload_n 1, 1) := by decide +kernel
theorem dX11_bits_11 : decode cX11_bits 11 = .ok (.iload_n 0, 1) := by decide +kernel
theorem dX11_bits_12 : decode cX11_bits 12 = .ok (.iload_n 2, 1) := by decide +kernel
theorem dX11_bits_13 : decode cX11_bits 13 = .ok (.ishr, 1) := by decide +kernel
theorem dX11_bits_14 : decode cX11_bits 14 = .ok (.iconst 1, 1) := by decide +kernel
theorem dX11_bits_15 : decode cX11_bits 15 = .ok (.iand, 1) := by decide +kernel
theorem dX11_bits_16 : decode cX11_bits 16 = .ok (.iadd, 1) := by decide +kernel
theorem dX11_bits_17 : decode cX11_bits 17 = .ok (.istore_n 1, 1) := by decide +kernel
theorem dX11_bits_18 : decode cX11_bits 18 = .ok (.iinc 2 1, 3) := by decide +kernel
theorem dX11_bits_21 : decode cX11_bits 21 = .ok (.goto (-17), 3) := by decide +kernel
theorem dX11_bits_24 : decode cX11_bits 24 = .ok (.iload_n 1, 1) := by decide +kernel
theorem dX11_bits_25 : decode cX11_bits 25 = .ok (.ireturn, 1) := by decide +kernel
set_option maxRecDepth 20000 in
theorem ggX11_isWave_X11_in : GoodIn wsX11_isWave wsX11_in := goodIn_r _ [6] (by decide +kernel) (by decide +kernel)
set_option maxRecDepth 20000 in
theorem gX11_isWave_X11_in : GoodIn wsX11_isWave (va_wsS RX11 281 yX11_in wsX11_in) := goodIn_app (goodIn_of _ (by decide +kernel)) ggX11_isWave_X11_in
theorem dX11_isWave_0 : decode cX11_isWave 0 = .ok (.iload_n 1, 1) := by decide +kernel
theorem dX11_isWave_1 : decode cX11_isWave 1 = .ok (.iconst 0, 1) := by decide +kernel
theorem dX11_isWave_2 : decode cX11_isWave 2 = .ok (.aload_n 0, 1) := by decide +kernel
theorem dX11_isWave_3 : decode cX11_isWave 3 = .ok (.getfield 40, 3) := by decide +kernel
theorem dX11_isWave_6 : decode cX11_isWave 6 = .ok (.aload_n 0, 1) := by decide +kernel
theorem dX11_isWave_7 : decode cX11_isWave 7 = .ok (.getfield 215, 3) := by decide +kernel
theorem dX11_isWave_10 : decode cX11_isWave 10 = .ok (.iaload, 1) := by decide +kernel
theorem dX11_isWave_11 : decode cX11_isWave 11 = .ok (.iconst 1, 1) := by decide +kernel
theorem dX11_isWave_12 : decode cX11_isWave 12 = .ok (.isub, 1) := by decide +kernel
theorem dX11_isWave_13 : decode cX11_isWave 13 = .ok (.invokestatic 281, 3) := by decide +kernel
theorem dX11_isWave_16 : decode cX11_isWave 16 = .ok (.ireturn, 1) := by decide +kernel
set_option maxRecDepth 20000 in
theorem ggX11_isParty_X11_in : GoodIn wsX11_isParty wsX11_in := goodIn_r _ [6] (by decide +kernel) (by decide +kernel)
set_option maxRecDepth 20000 in
theorem gX11_isParty_X11_in : GoodIn wsX11_isParty (va_wsS RX11 281 yX11_in wsX11_in) := goodIn_app (goodIn_of _ (by decide +kernel)) ggX11_isParty_X11_in
theorem dX11_isParty_0 : decode cX11_isParty 0 = .ok (.iload_n 1, 1) := by decide +kernel
theorem dX11_isParty_1 : decode cX11_isParty 1 = .ok (.iconst 0, 1) := by decide +kernel
theorem dX11_isParty_2 : decode cX11_isParty 2 = .ok (.aload_n 0, 1) := by decide +kernel
theorem dX11_isParty_3 : decode cX11_isParty 3 = .ok (.getfield 49, 3) := by decide +kernel
theorem dX11_isParty_6 : decode cX11_isParty 6 = .ok (.aload_n 0, 1) := by decide +kernel
theorem dX11_isParty_7 : decode cX11_isParty 7 = .ok (.getfield 215, 3) := by decide +kernel
theorem dX11_isParty_10 : decode cX11_isParty 10 = .ok (.iaload, 1) := by decide +kernel
theorem dX11_isParty_11 : decode cX11_isParty 11 = .ok (.iconst 1, 1) := by decide +kernel
theorem dX11_isParty_12 : decode cX11_isParty 12 = .ok (.isub, 1) := by decide +kernel
theorem dX11_isParty_13 : decode cX11_isParty 13 = .ok (.invokestatic 281, 3) := by decide +kernel
theorem dX11_isParty_16 : decode cX11_isParty 16 = .ok (.ireturn, 1) := by decide +kernel
theorem dX11_guesses_0 : decode cX11_guesses 0 = .ok (.aload_n 0, 1) := by decide +kernel
theorem dX11_guesses_1 : decode cX11_guesses 1 = .ok (.getfield 104, 3) := by decide +kernel
theorem dX11_guesses_4 : decode cX11_guesses 4 = .ok (.aload_n 0, 1) := by decide +kernel
theorem dX11_guesses_5 : decode cX11_guesses 5 = .ok (.getfield 40, 3) := by decide +kernel
theorem dX11_guesses_8 : decode cX11_guesses 8 = .ok (.aload_n 0, 1) := by decide +kernel
theorem dX11_guesses_9 : decode cX11_guesses 9 = .ok (.getfield 215, 3) := by decide +kernel
theorem dX11_guesses_12 : decode cX11_guesses 12 = .ok (.iaload, 1) := by decide +kernel
theorem dX11_guesses_13 : decode cX11_guesses 13 = .ok (.iaload, 1) := by decide +kernel
theorem dX11_guesses_14 : decode cX11_guesses 14 = .ok (.ireturn, 1) := by decide +kernel
set_option maxRecDepth 20000 in
theorem ggX11_isGuess_X11_guesses : GoodIn wsX11_isGuess wsX11_guesses := goodIn_r _ [5, 6, 7, 8, 12, 13, 14, 15, 16, 17, 18, 19, 20, 21, 22, 23, 24, 25, 26, 27, 28, 29, 30, 31, 32, 33, 34, 35, 36, 37, 38, 39, 40, 41, 42, 43, 44, 45, 46, 47, 48, 49, 50, 51, 52, 53, 54, 55, 56, 57, 58, 59, 60, 61, 62, 63, 64, 65, 66, 67, 68, 69] (by decide +kernel) (by decide +kernel)
set_option maxRecDepth 20000 in
theorem gX11_isGuess_X11_guesses : GoodIn wsX11_isGuess (wsV RX11 285 RX11 yX11_guesses wsX11_guesses) := goodIn_app (goodIn_of _ (by decide +kernel)) ggX11_isGuess_X11_guesses
set_option maxRecDepth 20000 in
theorem ggX11_isGuess_X11_in : GoodIn wsX11_isGuess wsX11_in := goodIn_r _ [11] (by decide +kernel) (by decide +kernel)
set_option maxRecDepth 20000 in
theorem gX11_isGuess_X11_in : GoodIn wsX11_isGuess (va_wsS RX11 281 yX11_in wsX11_in) := goodIn_app (goodIn_of _ (by decide +kernel)) ggX11_isGuess_X11_in
theorem dX11_isGuess_0 : decode cX11_isGuess 0 = .ok (.iload_n 1, 1) := by decide +kernel
theorem dX11_isGuess_1 : decode cX11_isGuess 1 = .ok (.iconst 0, 1) := by decide +kernel
theorem dX11_isGuess_2 : decode cX11_isGuess 2 = .ok (.aload_n 0, 1) := by decide +kernel
theorem dX11_isGuess_3 : decode cX11_isGuess 3 = .ok (.invokevirtual 285, 3) := by decide +kernel
theorem dX11_isGuess_6 : decode cX11_isGuess 6 = .ok (.iconst 1, 1) := by decide +kernel
theorem dX11_isGuess_7 : decode cX11_isGuess 7 = .ok (.isub, 1) := by decide +kernel
theorem dX11_isGuess_8 : decode cX11_isGuess 8 = .ok (.invokestatic 281, 3) := by decide +kernel
theorem dX11_isGuess_11 : decode cX11_isGuess 11 = .ok (.ireturn, 1) := by decide +kernel
set_option maxRecDepth 20000 in
theorem ggX11_isThing_X11_in : GoodIn wsX11_isThing wsX11_in := goodIn_r _ [4] (by decide +kernel) (by decide +kernel)
set_option maxRecDepth 20000 in
theorem gX11_isThing_X11_in : GoodIn wsX11_isThing (va_wsS RX11 281 yX11_in wsX11_in) := goodIn_app (goodIn_of _ (by decide +kernel)) ggX11_isThing_X11_in
theorem dX11_isThing_0 : decode cX11_isThing 0 = .ok (.iload_n 0, 1) := by decide +kernel
theorem dX11_isThing_1 : decode cX11_isThing 1 = .ok (.iconst 0, 1) := by decide +kernel
theorem dX11_isThing_2 : decode cX11_isThing 2 = .ok (.iconst 5, 1) := by decide +kernel
theorem dX11_isThing_3 : decode cX11_isThing 3 = .ok (.invokestatic 281, 3) := by decide +kernel
theorem dX11_isThing_6 : decode cX11_isThing 6 = .ok (.ireturn, 1) := by decide +kernel
theorem dX11_copies_0 : decode cX11_copies 0 = .ok (.iconst 0, 1) := by decide +kernel
theorem dX11_copies_1 : decode cX11_copies 1 = .ok (.istore_n 1, 1) := by decide +kernel
theorem dX11_copies_2 : decode cX11_copies 2 = .ok (.iload_n 1, 1) := by decide +kernel
theorem dX11_copies_3 : decode cX11_copies 3 = .ok (.bipush 29, 2) := by decide +kernel
theorem dX11_copies_5 : decode cX11_copies 5 = .ok (.if_icmp .ge 21, 3) := by decide +kernel
theorem dX11_copies_8 : decode cX11_copies 8 = .ok (.aload_n 0, 1) := by decide +kernel
theorem dX11_copies_9 : decode cX11_copies 9 = .ok (.getfield 101, 3) := by decide +kernel
theorem dX11_copies_12 : decode cX11_copies 12 = .ok (.iload_n 1, 1) := by decide +kernel
theorem dX11_copies_13 : decode cX11_copies 13 = .ok (.aload_n 0, 1) := by decide +kernel
theorem dX11_copies_14 : decode cX11_copies 14 = .ok (.getfield 98, 3) := by decide +kernel
theorem dX11_copies_17 : decode cX11_copies 17 = .ok (.iload_n 1, 1) := by decide +kernel
theorem dX11_copies_18 : decode cX11_copies 18 = .ok (.iaload, 1) := by decide +kernel
theorem dX11_copies_19 : decode cX11_copies 19 = .ok (.iastore, 1) := by decide +kernel
theorem dX11_copies_20 : decode cX11_copies 20 = .ok (.iinc 1 1, 3) := by decide +kernel
theorem dX11_copies_23 : decode cX11_copies 23 = .ok (.goto (-21), 3) := by decide +kernel
theorem dX11_copies_26 : decode cX11_copies 26 = .ok (.aload_n 0, 1) := by decide +kernel
theorem dX11_copies_27 : decode cX11_copies 27 = .ok (.aload_n 0, 1) := by decide +kernel
theorem dX11_copies_28 : decode cX11_copies 28 = .ok (.getfield 58, 3) := by decide +kernel
theorem dX11_copies_31 : decode cX11_copies 31 = .ok (.aload_n 0, 1) := by decide +kernel
theorem dX11_copies_32 : decode cX11_copies 32 = .ok (.getfield 215, 3) := by decide +kernel
theorem dX11_copies_35 : decode cX11_copies 35 = .ok (.iaload, 1) := by decide +kernel
theorem dX11_copies_36 : decode cX11_copies 36 = .ok (.putfield 289, 3) := by decide +kernel
theorem dX11_copies_39 : decode cX11_copies 39 = .ok (.return_, 1) := by decide +kernel
theorem dX11_thereNumber_0 : decode cX11_thereNumber 0 = .ok (.iconst 0, 1) := by decide +kernel
theorem dX11_thereNumber_1 : decode cX11_thereNumber 1 = .ok (.istore_n 1, 1) := by decide +kernel
theorem dX11_thereNumber_2 : decode cX11_thereNumber 2 = .ok (.iconst 0, 1) := by decide +kernel
theorem dX11_thereNumber_3 : decode cX11_thereNumber 3 = .ok (.istore_n 2, 1) := by decide +kernel
theorem dX11_thereNumber_4 : decode cX11_thereNumber 4 = .ok (.iload_n 2, 1) := by decide +kernel
theorem dX11_thereNumber_5 : decode cX11_thereNumber 5 = .ok (.aload_n 0, 1) := by decide +kernel
theorem dX11_thereNumber_6 : decode cX11_thereNumber 6 = .ok (.getfield 40, 3) := by decide +kernel
theorem dX11_thereNumber_9 : decode cX11_thereNumber 9 = .ok (.aload_n 0, 1) := by decide +kernel
theorem dX11_thereNumber_10 : decode cX11_thereNumber 10 = .ok (.getfield 215, 3) := by decide +kernel
theorem dX11_thereNumber_13 : decode cX11_thereNumber 13 = .ok (.iaload, 1) := by decide +kernel
theorem dX11_thereNumber_14 : decode cX11_thereNumber 14 = .ok (.if_icmp .ge 24, 3) := by decide +kernel
theorem dX11_thereNumber_38 : decode cX11_thereNumber 38 = .ok (.iload_n 1, 1) := by decide +kernel
theorem dX11_thereNumber_39 : decode cX11_thereNumber 39 = .ok (.ireturn, 1) := by decide +kernel
set_option maxRecDepth 20000 in
theorem ggX11_isHere_X11_isParty : GoodIn wsX11_isHere wsX11_isParty := goodIn_r _ [6, 7, 8, 9, 10, 5, 11, 12, 13, 14, 15, 16, 17, 18, 19, 20, 21, 22, 23, 24, 25, 26, 27, 28, 29, 30, 31, 32, 33, 34, 35, 36, 37, 38, 39, 40, 41, 42, 43, 44, 45, 46, 47, 48, 49, 50, 51, 52, 53, 54, 55, 56, 57, 58, 59, 60, 61, 62, 63, 64, 65, 66, 67, 68, 69] (by decide +kernel) (by decide +kernel)
set_option maxRecDepth 20000 in
theorem gX11_isHere_X11_isParty : GoodIn wsX11_isHere (wsV RX11 358 RX11 yX11_isParty wsX11_isParty) := goodIn_app (goodIn_of _ (by decide +kernel)) ggX11_isHere_X11_isParty
theorem dX11_isHere_0 : decode cX11_isHere 0 = .ok (.aload_n 0, 1) := by decide +kernel
theorem dX11_isHere_1 : decode cX11_isHere 1 = .ok (.iload_n 1, 1) := by decide +kernel
theorem dX11_isHere_2 : decode cX11_isHere 2 = .ok (.invokevirtual 358, 3) := by decide +kernel
theorem dX11_isHere_5 : decode cX11_isHere 5 = .ok (.ifCond .eq 19, 3) := by decide +kernel
theorem dX11_isHere_24 : decode cX11_isHere 24 = .ok (.iconst 0, 1) := by decide +kernel
theorem dX11_isHere_25 : decode cX11_isHere 25 = .ok (.ireturn, 1) := by decide +kernel
set_option maxRecDepth 20000 in
theorem ggX11_isLong_X11_in : GoodIn wsX11_isLong wsX11_in := goodIn_r _ [4] (by decide +kernel) (by decide +kernel)
set_option maxRecDepth 20000 in
theorem gX11_isLong_X11_in : GoodIn wsX11_isLong (va_wsS RX11 281 yX11_in wsX11_in) := goodIn_app (goodIn_of _ (by decide +kernel)) ggX11_isLong_X11_in
theorem dX11_isLong_0 : decode cX11_isLong 0 = .ok (.iload_n 0, 1) := by decide +kernel
theorem dX11_isLong_1 : decode cX11_isLong 1 = .ok (.iconst 0, 1) := by decide +kernel
theorem dX11_isLong_2 : decode cX11_isLong 2 = .ok (.bipush 40, 2) := by decide +kernel
theorem dX11_isLong_4 : decode cX11_isLong 4 = .ok (.invokestatic 281, 3) := by decide +kernel
theorem dX11_isLong_7 : decode cX11_isLong 7 = .ok (.ireturn, 1) := by decide +kernel
theorem dX11_casesNow_0 : decode cX11_casesNow 0 = .ok (.iconst 1, 1) := by decide +kernel
theorem dX11_casesNow_1 : decode cX11_casesNow 1 = .ok (.istore_n 1, 1) := by decide +kernel
theorem dX11_casesNow_2 : decode cX11_casesNow 2 = .ok (.iconst 0, 1) := by decide +kernel
theorem dX11_casesNow_3 : decode cX11_casesNow 3 = .ok (.istore_n 2, 1) := by decide +kernel
theorem dX11_casesNow_4 : decode cX11_casesNow 4 = .ok (.iload_n 2, 1) := by decide +kernel
theorem dX11_casesNow_5 : decode cX11_casesNow 5 = .ok (.aload_n 0, 1) := by decide +kernel
theorem dX11_casesNow_6 : decode cX11_casesNow 6 = .ok (.getfield 40, 3) := by decide +kernel
theorem dX11_casesNow_9 : decode cX11_casesNow 9 = .ok (.aload_n 0, 1) := by decide +kernel
theorem dX11_casesNow_10 : decode cX11_casesNow 10 = .ok (.getfield 215, 3) := by decide +kernel
theorem dX11_casesNow_13 : decode cX11_casesNow 13 = .ok (.iaload, 1) := by decide +kernel
theorem dX11_casesNow_14 : decode cX11_casesNow 14 = .ok (.if_icmp .ge 20, 3) := by decide +kernel
theorem dX11_casesNow_34 : decode cX11_casesNow 34 = .ok (.iload_n 1, 1) := by decide +kernel
theorem dX11_casesNow_35 : decode cX11_casesNow 35 = .ok (.ireturn, 1) := by decide +kernel
theorem dX11_chanceOf_0 : decode cX11_chanceOf 0 = .ok (.iconst 1, 1) := by decide +kernel
theorem dX11_chanceOf_1 : decode cX11_chanceOf 1 = .ok (.istore_n 2, 1) := by decide +kernel
theorem dX11_chanceOf_2 : decode cX11_chanceOf 2 = .ok (.iconst 0, 1) := by decide +kernel
theorem dX11_chanceOf_3 : decode cX11_chanceOf 3 = .ok (.istore_n 3, 1) := by decide +kernel
theorem dX11_chanceOf_4 : decode cX11_chanceOf 4 = .ok (.iload_n 3, 1) := by decide +kernel
theorem dX11_chanceOf_5 : decode cX11_chanceOf 5 = .ok (.aload_n 0, 1) := by decide +kernel
theorem dX11_chanceOf_6 : decode cX11_chanceOf 6 = .ok (.getfield 40, 3) := by decide +kernel
theorem dX11_chanceOf_9 : decode cX11_chanceOf 9 = .ok (.aload_n 0, 1) := by decide +kernel
theorem dX11_chanceOf_10 : decode cX11_chanceOf 10 = .ok (.getfield 215, 3) := by decide +kernel
theorem dX11_chanceOf_13 : decode cX11_chanceOf 13 = .ok (.iaload, 1) := by decide +kernel
theorem dX11_chanceOf_14 : decode cX11_chanceOf 14 = .ok (.if_icmp .ge 41, 3) := by decide +kernel
theorem dX11_chanceOf_55 : decode cX11_chanceOf 55 = .ok (.iload_n 2, 1) := by decide +kernel
theorem dX11_chanceOf_56 : decode cX11_chanceOf 56 = .ok (.ireturn, 1) := by decide +kernel
theorem dX11_isCase_0 : decode cX11_isCase 0 = .ok (.iconst 0, 1) := by decide +kernel
theorem dX11_isCase_1 : decode cX11_isCase 1 = .ok (.istore_n 2, 1) := by decide +kernel
theorem dX11_isCase_2 : decode cX11_isCase 2 = .ok (.iload_n 2, 1) := by decide +kernel
theorem dX11_isCase_3 : decode cX11_isCase 3 = .ok (.aload_n 0, 1) := by decide +kernel
theorem dX11_isCase_4 : decode cX11_isCase 4 = .ok (.getfield 40, 3) := by decide +kernel
theorem dX11_isCase_7 : decode cX11_isCase 7 = .ok (.aload_n 0, 1) := by decide +kernel
theorem dX11_isCase_8 : decode cX11_isCase 8 = .ok (.getfield 215, 3) := by decide +kernel
theorem dX11_isCase_11 : decode cX11_isCase 11 = .ok (.iaload, 1) := by decide +kernel
theorem dX11_isCase_12 : decode cX11_isCase 12 = .ok (.if_icmp .ge 25, 3) := by decide +kernel
theorem dX11_isCase_37 : decode cX11_isCase 37 = .ok (.iconst 1, 1) := by decide +kernel
theorem dX11_isCase_38 : decode cX11_isCase 38 = .ok (.ireturn, 1) := by decide +kernel
theorem dX11_bestFor_0 : decode cX11_bestFor 0 = .ok (.iconst 0, 1) := by decide +kernel
theorem dX11_bestFor_1 : decode cX11_bestFor 1 = .ok (.istore_n 2, 1) := by decide +kernel
theorem dX11_bestFor_2 : decode cX11_bestFor 2 = .ok (.iconst 0, 1) := by decide +kernel
theorem dX11_bestFor_3 : decode cX11_bestFor 3 = .ok (.istore_n 3, 1) := by decide +kernel
theorem dX11_bestFor_4 : decode cX11_bestFor 4 = .ok (.iload_n 3, 1) := by decide +kernel
theorem dX11_bestFor_5 : decode cX11_bestFor 5 = .ok (.aload_n 0, 1) := by decide +kernel
theorem dX11_bestFor_6 : decode cX11_bestFor 6 = .ok (.getfield 40, 3) := by decide +kernel
theorem dX11_bestFor_9 : decode cX11_bestFor 9 = .ok (.aload_n 0, 1) := by decide +kernel
theorem dX11_bestFor_10 : decode cX11_bestFor 10 = .ok (.getfield 215, 3) := by decide +kernel
theorem dX11_bestFor_13 : decode cX11_bestFor 13 = .ok (.iaload, 1) := by decide +kernel
theorem dX11_bestFor_14 : decode cX11_bestFor 14 = .ok (.if_icmp .ge 101, 3) := by decide +kernel
theorem dX11_bestFor_115 : decode cX11_bestFor 115 = .ok (.iload_n 2, 1) := by decide +kernel
theorem dX11_bestFor_116 : decode cX11_bestFor 116 = .ok (.ireturn, 1) := by decide +kernel
set_option maxRecDepth 20000 in
theorem ggX11_leftOf_X11_casesNow : GoodIn wsX11_leftOf wsX11_casesNow := goodIn_r _ [7, 1, 2, 8, 9, 10, 6, 11, 12, 13, 14, 15, 16, 17, 18, 19, 20, 26, 27, 28, 29, 30, 31, 32, 33, 34, 35, 36, 37, 38, 39, 40, 41, 42, 43, 44, 45, 46, 47, 48, 49, 50, 51, 52, 53, 54, 55, 56, 57, 58, 59, 60, 61, 62, 63, 64, 65, 66, 67, 68, 69, 70, 71, 72, 73, 74, 75, 76, 77, 78, 79, 80, 81, 82, 83] (by decide +kernel) (by decide +kernel)
set_option maxRecDepth 20000 in
theorem gX11_leftOf_X11_casesNow : GoodIn wsX11_leftOf (wsV RX11 385 RX11 yX11_casesNow wsX11_casesNow) := goodIn_app (goodIn_of _ (by decide +kernel)) ggX11_leftOf_X11_casesNow
theorem dX11_leftOf_0 : decode cX11_leftOf 0 = .ok (.iconst 0, 1) := by decide +kernel
theorem dX11_leftOf_1 : decode cX11_leftOf 1 = .ok (.istore_n 2, 1) := by decide +kernel
theorem dX11_leftOf_2 : decode cX11_leftOf 2 = .ok (.aload_n 0, 1) := by decide +kernel
theorem dX11_leftOf_3 : decode cX11_leftOf 3 = .ok (.invokevirtual 385, 3) := by decide +kernel
theorem dX11_leftOf_6 : decode cX11_leftOf 6 = .ok (.istore_n 3, 1) := by decide +kernel
theorem dX11_leftOf_7 : decode cX11_leftOf 7 = .ok (.iconst 0, 1) := by decide +kernel
theorem dX11_leftOf_8 : decode cX11_leftOf 8 = .ok (.istore 4, 2) := by decide +kernel
theorem dX11_leftOf_10 : decode cX11_leftOf 10 = .ok (.iload 4, 2) := by decide +kernel
theorem dX11_leftOf_12 : decode cX11_leftOf 12 = .ok (.aload_n 0, 1) := by decide +kernel
theorem dX11_leftOf_13 : decode cX11_leftOf 13 = .ok (.getfield 40, 3) := by decide +kernel
theorem dX11_leftOf_16 : decode cX11_leftOf 16 = .ok (.aload_n 0, 1) := by decide +kernel
theorem dX11_leftOf_17 : decode cX11_leftOf 17 = .ok (.getfield 215, 3) := by decide +kernel
theorem dX11_leftOf_20 : decode cX11_leftOf 20 = .ok (.iaload, 1) := by decide +kernel
theorem dX11_leftOf_21 : decode cX11_leftOf 21 = .ok (.if_icmp .ge 69, 3) := by decide +kernel
theorem dX11_leftOf_90 : decode cX11_leftOf 90 = .ok (.iload_n 2, 1) := by decide +kernel
theorem dX11_leftOf_91 : decode cX11_leftOf 91 = .ok (.iconst 1, 1) := by decide +kernel
theorem dX11_leftOf_92 : decode cX11_leftOf 92 = .ok (.if_icmp .le 7, 3) := by decide +kernel
theorem dX11_leftOf_99 : decode cX11_leftOf 99 = .ok (.iconst 1, 1) := by decide +kernel
theorem dX11_leftOf_100 : decode cX11_leftOf 100 = .ok (.ireturn, 1) := by decide +kernel
set_option maxHeartbeats 4000000 in
set_option maxRecDepth 100000 in
theorem c_in (l : Launch) (dC : Nat → ClassId) (dI : Nat → Nat → Nat) (cB cI cJ cZ cS : ClassId)  (x1 : Int32) (x2 : Int32) (x3 : Int32) : CI l yX11_in wsX11_in ({ frames := 0, cells := 0, slots := 0, locals := 0 }) (dC, dI) (tysA cB cI cJ cZ cS) [] [.int x1, .int x2, .int x3] (fun r _ => r = (sp_in x1 x2 x3)) := by
  refine open_I (cc := cX11_in) (maxL := 3) (ret := (some .boolean)) (by decide) rfl (Nat.le_of_ble_eq_true rfl) ?_
  intro p e s m below meth c A ls E
  obtain ⟨C, hr, hlocks, hnm, hA, hP, hK, hD, hN, hl⟩ := E
  obtain ⟨hx, hb, hml, hown, hts⟩ := id C
  have hS : va_S A s.heap s.heap [] := va_S.rf
  have hl : lv_has ls 3 [(0, .int x1), (1, .int x2), (2, .int x3)] := hl
  refine lv_iload_n hx hb dX11_in_0 rfl (lv_at hl 0 rfl) ?_
  refine lv_iload_n hx hb dX11_in_1 rfl (lv_at hl 1 rfl) ?_
  refine lv_icmp_lt (tgt := 14) hx hb dX11_in_2 (by decide) (fun c1 => ?_) (fun c1 => ?_)
  · skip
    refine lv_iconst (v := 0) hx hb dX11_in_14 (by decide) ?_
    exact q_zret C hr hlocks (Or.inl rfl) hK hP hD hS (Nat.le_of_ble_eq_true rfl) (Nat.le_of_ble_eq_true rfl) dX11_in_15 (sp_in_a c1)
  · skip
    refine lv_iload_n hx hb dX11_in_5 rfl (lv_at hl 0 rfl) ?_
    refine lv_iload_n hx hb dX11_in_6 rfl (lv_at hl 2 rfl) ?_
    refine lv_icmp_gt (tgt := 14) hx hb dX11_in_7 (by decide) (fun c2 => ?_) (fun c2 => ?_)
    · skip
      refine lv_iconst (v := 0) hx hb dX11_in_14 (by decide) ?_
      exact q_zret C hr hlocks (Or.inl rfl) hK hP hD hS (Nat.le_of_ble_eq_true rfl) (Nat.le_of_ble_eq_true rfl) dX11_in_15 (sp_in_b c2)
    · skip
      refine lv_iconst (v := 1) hx hb dX11_in_10 (by decide) ?_
      refine lv_goto (tgt := 15) hx hb dX11_in_11 (by decide) ?_
      exact q_zret C hr hlocks (Or.inr rfl) hK hP hD hS (Nat.le_of_ble_eq_true rfl) (Nat.le_of_ble_eq_true rfl) dX11_in_15 (sp_in_c c1 c2)

set_option maxHeartbeats 4000000 in
set_option maxRecDepth 100000 in
theorem c_isThing (l : Launch) (dC : Nat → ClassId) (dI : Nat → Nat → Nat) (cB cI cJ cZ cS : ClassId)  (x1 : Int32) : CI l yX11_isThing wsX11_isThing ({ frames := 1, cells := 0, slots := 0, locals := 22 }) (dC, dI) (tysA cB cI cJ cZ cS) [] [.int x1] (fun r _ => r = (sp_in x1 0 5)) := by
  refine open_I (cc := cX11_isThing) (maxL := 1) (ret := (some .boolean)) (by decide) rfl (Nat.le_of_ble_eq_true rfl) ?_
  intro p e s m below meth c A ls E
  obtain ⟨C, hr, hlocks, hnm, hA, hP, hK, hD, hN, hl⟩ := E
  obtain ⟨hx, hb, hml, hown, hts⟩ := id C
  have hS : va_S A s.heap s.heap [] := va_S.rf
  have hl : lv_has ls 1 [(0, .int x1)] := hl
  refine lv_iload_n hx hb dX11_isThing_0 rfl (lv_at hl 0 rfl) ?_
  refine lv_iconst (v := 0) hx hb dX11_isThing_1 (by decide) ?_
  refine lv_iconst (v := 5) hx hb dX11_isThing_2 (by decide) ?_
  refine q_goi0 (va_runS (As := [.int x1, .int 0, .int 5]) (rest := []) C (c_in l dC dI cB cI cJ cZ cS x1 0 5 _) (va_cwS 3 hts gX11_isThing_X11_in rfl rfl rfl (by decide +kernel) ⟨Nat.le_of_ble_eq_true rfl, Nat.le_of_ble_eq_true rfl⟩) (q_pre0 hN hK) rfl rfl hl.1 rfl (lv_room (Nat.le_of_ble_eq_true rfl)) dX11_isThing_3 ⟨Nat.le_of_ble_eq_true rfl, Nat.le_of_ble_eq_true rfl⟩) hP hD hS hA (fun r w1 H locs hw hP hS => ?_)
  obtain rfl := hw
  exact q_zret C hr hlocks (sp_in_01 _ _ _) hK hP hD hS (Nat.le_of_ble_eq_true rfl) (Nat.le_of_ble_eq_true rfl) dX11_isThing_6 (rfl)

set_option maxHeartbeats 4000000 in
set_option maxRecDepth 100000 in
theorem c_isLong (l : Launch) (dC : Nat → ClassId) (dI : Nat → Nat → Nat) (cB cI cJ cZ cS : ClassId)  (x1 : Int32) : CI l yX11_isLong wsX11_isLong ({ frames := 1, cells := 0, slots := 0, locals := 22 }) (dC, dI) (tysA cB cI cJ cZ cS) [] [.int x1] (fun r _ => r = (sp_in x1 0 40)) := by
  refine open_I (cc := cX11_isLong) (maxL := 1) (ret := (some .boolean)) (by decide) rfl (Nat.le_of_ble_eq_true rfl) ?_
  intro p e s m below meth c A ls E
  obtain ⟨C, hr, hlocks, hnm, hA, hP, hK, hD, hN, hl⟩ := E
  obtain ⟨hx, hb, hml, hown, hts⟩ := id C
  have hS : va_S A s.heap s.heap [] := va_S.rf
  have hl : lv_has ls 1 [(0, .int x1)] := hl
  refine lv_iload_n hx hb dX11_isLong_0 rfl (lv_at hl 0 rfl) ?_
  refine lv_iconst (v := 0) hx hb dX11_isLong_1 (by decide) ?_
  refine lv_bipush (v := 40) hx hb dX11_isLong_2 (by decide) ?_
  refine q_goi0 (va_runS (As := [.int x1, .int 0, .int 40]) (rest := []) C (c_in l dC dI cB cI cJ cZ cS x1 0 40 _) (va_cwS 3 hts gX11_isLong_X11_in rfl rfl rfl (by decide +kernel) ⟨Nat.le_of_ble_eq_true rfl, Nat.le_of_ble_eq_true rfl⟩) (q_pre0 hN hK) rfl rfl hl.1 rfl (lv_room (Nat.le_of_ble_eq_true rfl)) dX11_isLong_4 ⟨Nat.le_of_ble_eq_true rfl, Nat.le_of_ble_eq_true rfl⟩) hP hD hS hA (fun r w1 H locs hw hP hS => ?_)
  obtain rfl := hw
  exact q_zret C hr hlocks (sp_in_01 _ _ _) hK hP hD hS (Nat.le_of_ble_eq_true rfl) (Nat.le_of_ble_eq_true rfl) dX11_isLong_7 (rfl)

set_option maxHeartbeats 4000000 in
set_option maxRecDepth 100000 in
theorem c_isWave (l : Launch) (dC : Nat → ClassId) (dI : Nat → Nat → Nat) (cB cI cJ cZ cS : ClassId) (h : Nat) (a : Nat → Nat) (v : Nat → Int32) (f : Nat → Nat → Int32) (g : Nat → Nat → Int64) (hv18 : v 18 = 0) (hf20_0 : f 20 0 = 0) (x1 : Int32) : CI l yX11_isWave wsX11_isWave ({ frames := 1, cells := 0, slots := 0, locals := 22 }) (dC, dI) (tysA cB cI cJ cZ cS) (mw cB cI cJ cZ h a v f g) [.ref h, .int x1] (fun r w => w = (mw cB cI cJ cZ h a v f g) ∧ r = 0) := by
  refine open_I (cc := cX11_isWave) (maxL := 2) (ret := (some .boolean)) (by decide) rfl (Nat.le_of_ble_eq_true rfl) ?_
  intro p e s m below meth c A ls E
  obtain ⟨C, hr, hlocks, hnm, hA, hP, hK, hD, hN, hl⟩ := E
  obtain ⟨hx, hb, hml, hown, hts⟩ := id C
  have hS : va_S A s.heap s.heap [] := va_S.rf
  have hl : lv_has ls 2 [(0, .ref h), (1, .int x1)] := hl
  have inX11 : ∀ w ∈ u_ws RX11 TX11 58, w ∈ wsX11_isWave := fun _ h => List.mem_cons_of_mem _ (List.mem_append_right _ h)
  have L215 : Cond.fieldLink RX11 215 "GuessFerryModel" "live" "I" ∈ wsX11_isWave := by decide +kernel
  have L40 : Cond.fieldLink RX11 40 "GuessFerryModel" "waves" "[I" ∈ wsX11_isWave := by decide +kernel
  refine lv_iload_n hx hb dX11_isWave_0 rfl (lv_at hl 1 rfl) ?_
  refine lv_iconst (v := 0) hx hb dX11_isWave_1 (by decide) ?_
  refine lv_aload_n hx hb dX11_isWave_2 rfl (lv_at hl 0 rfl) ?_
  refine q_get (v := .ref (a 20)) C inX11 hK hP 0 rfl rfl 20 (by decide) rfl L40 rfl dX11_isWave_3 ?_
  refine lv_aload_n hx hb dX11_isWave_6 rfl (lv_at hl 0 rfl) ?_
  refine q_get (v := .int (v 18)) C inX11 hK hP 0 rfl rfl 18 (by decide) rfl L215 rfl dX11_isWave_7 ?_
  refine q_top (y := 0) (hv18) ?_
  refine q_iald (x := 0) C hK hP 8 1 rfl rfl (vp_lit (by decide +kernel)) dX11_isWave_10 (hf20_0) ?_
  refine lv_iconst (v := 1) hx hb dX11_isWave_11 (by decide) ?_
  refine lv_isub hx hb dX11_isWave_12 ?_
  refine q_top (y := (-1)) (by decide +kernel) ?_
  refine q_goi0 (va_runS (As := [.int x1, .int 0, .int (-1)]) (rest := []) C (c_in l dC dI cB cI cJ cZ cS x1 0 (-1) _) (va_cwS 3 hts gX11_isWave_X11_in rfl rfl rfl (by decide +kernel) ⟨Nat.le_of_ble_eq_true rfl, Nat.le_of_ble_eq_true rfl⟩) (q_pre0 hN hK) rfl rfl hl.1 rfl (lv_room (Nat.le_of_ble_eq_true rfl)) dX11_isWave_13 ⟨Nat.le_of_ble_eq_true rfl, Nat.le_of_ble_eq_true rfl⟩) hP hD hS hA (fun r w1 H locs hw hP hS => ?_)
  obtain rfl := hw
  refine q_top (y := 0) (sp_in_neg x1) ?_
  exact q_zret C hr hlocks (Or.inl rfl) hK hP hD hS (Nat.le_of_ble_eq_true rfl) (Nat.le_of_ble_eq_true rfl) dX11_isWave_16 (⟨rfl, rfl⟩)

set_option maxHeartbeats 4000000 in
set_option maxRecDepth 100000 in
theorem c_isParty (l : Launch) (dC : Nat → ClassId) (dI : Nat → Nat → Nat) (cB cI cJ cZ cS : ClassId) (h : Nat) (a : Nat → Nat) (v : Nat → Int32) (f : Nat → Nat → Int32) (g : Nat → Nat → Int64) (hv18 : v 18 = 0) (hf23_0 : f 23 0 = 0) (x1 : Int32) : CI l yX11_isParty wsX11_isParty ({ frames := 1, cells := 0, slots := 0, locals := 22 }) (dC, dI) (tysA cB cI cJ cZ cS) (mw cB cI cJ cZ h a v f g) [.ref h, .int x1] (fun r w => w = (mw cB cI cJ cZ h a v f g) ∧ r = 0) := by
  refine open_I (cc := cX11_isParty) (maxL := 2) (ret := (some .boolean)) (by decide) rfl (Nat.le_of_ble_eq_true rfl) ?_
  intro p e s m below meth c A ls E
  obtain ⟨C, hr, hlocks, hnm, hA, hP, hK, hD, hN, hl⟩ := E
  obtain ⟨hx, hb, hml, hown, hts⟩ := id C
  have hS : va_S A s.heap s.heap [] := va_S.rf
  have hl : lv_has ls 2 [(0, .ref h), (1, .int x1)] := hl
  have inX11 : ∀ w ∈ u_ws RX11 TX11 58, w ∈ wsX11_isParty := fun _ h => List.mem_cons_of_mem _ (List.mem_append_right _ h)
  have L215 : Cond.fieldLink RX11 215 "GuessFerryModel" "live" "I" ∈ wsX11_isParty := by decide +kernel
  have L49 : Cond.fieldLink RX11 49 "GuessFerryModel" "parties" "[I" ∈ wsX11_isParty := by decide +kernel
  refine lv_iload_n hx hb dX11_isParty_0 rfl (lv_at hl 1 rfl) ?_
  refine lv_iconst (v := 0) hx hb dX11_isParty_1 (by decide) ?_
  refine lv_aload_n hx hb dX11_isParty_2 rfl (lv_at hl 0 rfl) ?_
  refine q_get (v := .ref (a 23)) C inX11 hK hP 0 rfl rfl 23 (by decide) rfl L49 rfl dX11_isParty_3 ?_
  refine lv_aload_n hx hb dX11_isParty_6 rfl (lv_at hl 0 rfl) ?_
  refine q_get (v := .int (v 18)) C inX11 hK hP 0 rfl rfl 18 (by decide) rfl L215 rfl dX11_isParty_7 ?_
  refine q_top (y := 0) (hv18) ?_
  refine q_iald (x := 0) C hK hP 11 1 rfl rfl (vp_lit (by decide +kernel)) dX11_isParty_10 (hf23_0) ?_
  refine lv_iconst (v := 1) hx hb dX11_isParty_11 (by decide) ?_
  refine lv_isub hx hb dX11_isParty_12 ?_
  refine q_top (y := (-1)) (by decide +kernel) ?_
  refine q_goi0 (va_runS (As := [.int x1, .int 0, .int (-1)]) (rest := []) C (c_in l dC dI cB cI cJ cZ cS x1 0 (-1) _) (va_cwS 3 hts gX11_isParty_X11_in rfl rfl rfl (by decide +kernel) ⟨Nat.le_of_ble_eq_true rfl, Nat.le_of_ble_eq_true rfl⟩) (q_pre0 hN hK) rfl rfl hl.1 rfl (lv_room (Nat.le_of_ble_eq_true rfl)) dX11_isParty_13 ⟨Nat.le_of_ble_eq_true rfl, Nat.le_of_ble_eq_true rfl⟩) hP hD hS hA (fun r w1 H locs hw hP hS => ?_)
  obtain rfl := hw
  refine q_top (y := 0) (sp_in_neg x1) ?_
  exact q_zret C hr hlocks (Or.inl rfl) hK hP hD hS (Nat.le_of_ble_eq_true rfl) (Nat.le_of_ble_eq_true rfl) dX11_isParty_16 (⟨rfl, rfl⟩)

set_option maxHeartbeats 4000000 in
set_option maxRecDepth 100000 in
theorem c_guesses (l : Launch) (dC : Nat → ClassId) (dI : Nat → Nat → Nat) (cB cI cJ cZ cS : ClassId) (h : Nat) (a : Nat → Nat) (v : Nat → Int32) (f : Nat → Nat → Int32) (g : Nat → Nat → Int64) (hv18 : v 18 = 0) (hf20_0 : f 20 0 = 0) (hf46_0 : f 46 0 = 1) : CI l yX11_guesses wsX11_guesses ({ frames := 0, cells := 0, slots := 0, locals := 0 }) (dC, dI) (tysA cB cI cJ cZ cS) (mw cB cI cJ cZ h a v f g) [.ref h] (fun r w => w = (mw cB cI cJ cZ h a v f g) ∧ r = 1) := by
  refine open_I (cc := cX11_guesses) (maxL := 1) (ret := (some .int)) (by decide) rfl (Nat.le_of_ble_eq_true rfl) ?_
  intro p e s m below meth c A ls E
  obtain ⟨C, hr, hlocks, hnm, hA, hP, hK, hD, hN, hl⟩ := E
  obtain ⟨hx, hb, hml, hown, hts⟩ := id C
  have hS : va_S A s.heap s.heap [] := va_S.rf
  have hl : lv_has ls 1 [(0, .ref h)] := hl
  have inX11 : ∀ w ∈ u_ws RX11 TX11 58, w ∈ wsX11_guesses := fun _ h => List.mem_cons_of_mem _ (List.mem_append_right _ h)
  have L104 : Cond.fieldLink RX11 104 "GuessFerryModel" "sixes" "[I" ∈ wsX11_guesses := by decide +kernel
  have L215 : Cond.fieldLink RX11 215 "GuessFerryModel" "live" "I" ∈ wsX11_guesses := by decide +kernel
  have L40 : Cond.fieldLink RX11 40 "GuessFerryModel" "waves" "[I" ∈ wsX11_guesses := by decide +kernel
  refine lv_aload_n hx hb dX11_guesses_0 rfl (lv_at hl 0 rfl) ?_
  refine q_get (v := .ref (a 46)) C inX11 hK hP 0 rfl rfl 46 (by decide) rfl L104 rfl dX11_guesses_1 ?_
  refine lv_aload_n hx hb dX11_guesses_4 rfl (lv_at hl 0 rfl) ?_
  refine q_get (v := .ref (a 20)) C inX11 hK hP 0 rfl rfl 20 (by decide) rfl L40 rfl dX11_guesses_5 ?_
  refine lv_aload_n hx hb dX11_guesses_8 rfl (lv_at hl 0 rfl) ?_
  refine q_get (v := .int (v 18)) C inX11 hK hP 0 rfl rfl 18 (by decide) rfl L215 rfl dX11_guesses_9 ?_
  refine q_top (y := 0) (hv18) ?_
  refine q_iald (x := 0) C hK hP 8 1 rfl rfl (vp_lit (by decide +kernel)) dX11_guesses_12 (hf20_0) ?_
  refine q_iald (x := 1) C hK hP 29 1 rfl rfl (vp_lit (by decide +kernel)) dX11_guesses_13 (hf46_0) ?_
  exact q_iret C hr hlocks hK hP hD hS (Nat.le_of_ble_eq_true rfl) (Nat.le_of_ble_eq_true rfl) dX11_guesses_14 (⟨rfl, rfl⟩)

set_option maxHeartbeats 4000000 in
set_option maxRecDepth 100000 in
theorem c_isGuess (l : Launch) (dC : Nat → ClassId) (dI : Nat → Nat → Nat) (cB cI cJ cZ cS : ClassId) (h : Nat) (a : Nat → Nat) (v : Nat → Int32) (f : Nat → Nat → Int32) (g : Nat → Nat → Int64) (hv18 : v 18 = 0) (hf20_0 : f 20 0 = 0) (hf46_0 : f 46 0 = 1) (x1 : Int32) : CI l yX11_isGuess wsX11_isGuess ({ frames := 1, cells := 0, slots := 0, locals := 22 }) (dC, dI) (tysA cB cI cJ cZ cS) (mw cB cI cJ cZ h a v f g) [.ref h, .int x1] (fun r w => w = (mw cB cI cJ cZ h a v f g) ∧ r = (sp_in x1 0 0)) := by
  refine open_I (cc := cX11_isGuess) (maxL := 2) (ret := (some .boolean)) (by decide) rfl (Nat.le_of_ble_eq_true rfl) ?_
  intro p e s m below meth c A ls E
  obtain ⟨C, hr, hlocks, hnm, hA, hP, hK, hD, hN, hl⟩ := E
  obtain ⟨hx, hb, hml, hown, hts⟩ := id C
  have hS : va_S A s.heap s.heap [] := va_S.rf
  have hl : lv_has ls 2 [(0, .ref h), (1, .int x1)] := hl
  refine lv_iload_n hx hb dX11_isGuess_0 rfl (lv_at hl 1 rfl) ?_
  refine lv_iconst (v := 0) hx hb dX11_isGuess_1 (by decide) ?_
  refine lv_aload_n hx hb dX11_isGuess_2 rfl (lv_at hl 0 rfl) ?_
  refine q_goiF (va_runV (As := []) (rest := [.int 0, .int x1]) C (c_guesses l dC dI cB cI cJ cZ cS h a v f g hv18 hf20_0 hf46_0 _) (cwV 0 hts gX11_isGuess_X11_guesses rfl rfl rfl (by decide +kernel) ⟨Nat.le_of_ble_eq_true rfl, Nat.le_of_ble_eq_true rfl⟩) (q_preV hK hP (ci := 11) (q0 := 0) rfl rfl rfl (q_preF hN hK hP hD)) rfl rfl hl.1 rfl (lv_room (Nat.le_of_ble_eq_true rfl)) dX11_isGuess_3 ⟨Nat.le_of_ble_eq_true rfl, Nat.le_of_ble_eq_true rfl⟩) hD hS hA (fun r w1 H locs hw hP hD hS => ?_)
  obtain ⟨rfl, rfl⟩ := hw
  refine lv_iconst (v := 1) hx hb dX11_isGuess_6 (by decide) ?_
  refine lv_isub hx hb dX11_isGuess_7 ?_
  refine q_top (y := 0) (by decide +kernel) ?_
  refine q_goi0 (va_runS (As := [.int x1, .int 0, .int 0]) (rest := []) C (c_in l dC dI cB cI cJ cZ cS x1 0 0 _) (va_cwS 3 hts gX11_isGuess_X11_in rfl rfl rfl (by decide +kernel) ⟨Nat.le_of_ble_eq_true rfl, Nat.le_of_ble_eq_true rfl⟩) (q_pre0 hN hK) rfl rfl hl.1 rfl (lv_room (Nat.le_of_ble_eq_true rfl)) dX11_isGuess_8 ⟨Nat.le_of_ble_eq_true rfl, Nat.le_of_ble_eq_true rfl⟩) hP hD hS hA (fun r w1 H locs hw hP hS => ?_)
  obtain rfl := hw
  exact q_zret C hr hlocks (sp_in_01 _ _ _) hK hP hD hS (Nat.le_of_ble_eq_true rfl) (Nat.le_of_ble_eq_true rfl) dX11_isGuess_11 (⟨rfl, rfl⟩)

set_option maxHeartbeats 4000000 in
set_option maxRecDepth 100000 in
theorem c_copies (l : Launch) (dC : Nat → ClassId) (dI : Nat → Nat → Nat) (cB cI cJ cZ cS : ClassId) (h : Nat) (a : Nat → Nat) (v : Nat → Int32) (f : Nat → Nat → Int32) (g : Nat → Nat → Int64) (hv18 : v 18 = 0) (hf26_0 : f 26 0 = 0) (hv45 : v 45 = 0) (hrow : ∀ j, j < 29 → f 44 j = f 43 j) : CV l yX11_copies wsX11_copies ({ frames := 0, cells := 0, slots := 0, locals := 0 }) (dC, dI) (tysA cB cI cJ cZ cS) (mw cB cI cJ cZ h a v f g) [.ref h] (fun w => w = (mw cB cI cJ cZ h a v f g)) := by
  refine open_V (cc := cX11_copies) (maxL := 2) (ret := none) (by decide) rfl (Nat.le_of_ble_eq_true rfl) ?_
  intro p e s m below meth c A ls E
  obtain ⟨C, hr, hlocks, hnm, hA, hP, hK, hD, hN, hl⟩ := E
  obtain ⟨hx, hb, hml, hown, hts⟩ := id C
  have hS : va_S A s.heap s.heap [] := va_S.rf
  have hl : lv_has ls 2 [(0, .ref h)] := hl
  have inX11 : ∀ w ∈ u_ws RX11 TX11 58, w ∈ wsX11_copies := fun _ h => List.mem_cons_of_mem _ (List.mem_append_right _ h)
  have L101 : Cond.fieldLink RX11 101 "GuessFerryModel" "row" "[I" ∈ wsX11_copies := by decide +kernel
  have L215 : Cond.fieldLink RX11 215 "GuessFerryModel" "live" "I" ∈ wsX11_copies := by decide +kernel
  have L289 : Cond.fieldLink RX11 289 "GuessFerryModel" "lots" "I" ∈ wsX11_copies := by decide +kernel
  have L58 : Cond.fieldLink RX11 58 "GuessFerryModel" "seed" "[I" ∈ wsX11_copies := by decide +kernel
  have L98 : Cond.fieldLink RX11 98 "GuessFerryModel" "now" "[I" ∈ wsX11_copies := by decide +kernel
  refine lv_iconst (v := 0) hx hb dX11_copies_0 (by decide) ?_
  refine lv_istore_n (lv' := [(1, .int 0), (0, .ref h)]) hx hb dX11_copies_1 rfl hl (by decide) rfl (fun ls hl => ?_)
  have loop1 : ∀ (n i : Nat), i + n = 29 → ∀ (H : Heap) (locs : List Loc) (ls : Array Slot), va_P (dC, dI) vwCl (mw cB cI cJ cZ h a v f g) H → va_D A (mw cB cI cJ cZ h a v f g) → va_S A s.heap H locs → lv_has ls 2 [(1, .int (nI i)), (0, .ref h)] → W p l e ({ frames := 0, cells := 0, slots := 0, locals := 0 }) s m [Value.ref h].toArray below meth c H locs 0 0 (MQ below (va_Qv (fun w => w = (mw cB cI cJ cZ h a v f g)) (at_W (dC, dI) (tysA cB cI cJ cZ cS) A) A) [Value.ref h].toArray s 0 0 A) (F0 m 2 ls []) := by
    intro n
    induction n with
    | zero =>
      intro i hi H locs ls hP hD hS hl
      obtain rfl : i = 29 := by omega
      refine lv_iload_n hx hb dX11_copies_2 rfl (lv_at hl 0 rfl) ?_
      refine lv_bipush (v := 29) hx hb dX11_copies_3 (by decide) ?_
      refine lv_icmp_ge (tgt := 26) hx hb dX11_copies_5 (by decide) (fun _ => ?_) (fun h => absurd (by decide +kernel) h)
      refine lv_aload_n hx hb dX11_copies_26 rfl (lv_at hl 1 rfl) ?_
      refine lv_aload_n hx hb dX11_copies_27 rfl (lv_at hl 1 rfl) ?_
      refine q_get (v := .ref (a 26)) C inX11 hK hP 0 rfl rfl 26 (by decide) rfl L58 rfl dX11_copies_28 ?_
      refine lv_aload_n hx hb dX11_copies_31 rfl (lv_at hl 1 rfl) ?_
      refine q_get (v := .int (v 18)) C inX11 hK hP 0 rfl rfl 18 (by decide) rfl L215 rfl dX11_copies_32 ?_
      refine q_top (y := 0) (hv18) ?_
      refine q_iald (x := 0) C hK hP 14 1 rfl rfl (vp_lit (by decide +kernel)) dX11_copies_35 (hf26_0) ?_
      refine q_putS (ty := .int) tyX11 tyX11_ok nmX11 C inX11 hK hP hD hS 0 rfl rfl 45 (by decide) rfl L289 rfl (by decide +kernel) (rfl) rfl (Nat.le_of_ble_eq_true rfl) dX11_copies_36 (congrArg (fun z => some (Value.int z)) hv45) (fun H locs hP hD hS => ?_)
      exact q_vret C hr hlocks hK hP hD hS (Nat.le_of_ble_eq_true rfl) (Nat.le_of_ble_eq_true rfl) dX11_copies_39 (rfl)
    | succ n ih =>
      intro i hi H locs ls hP hD hS hl
      refine lv_iload_n hx hb dX11_copies_2 rfl (lv_at hl 0 rfl) ?_
      refine lv_bipush (v := 29) hx hb dX11_copies_3 (by decide) ?_
      refine lv_icmp_ge (tgt := 26) hx hb dX11_copies_5 (by decide) (fun h => absurd h (nI_nge (n := 29) (by omega) (by omega))) (fun _ => ?_)
      refine lv_aload_n hx hb dX11_copies_8 rfl (lv_at hl 1 rfl) ?_
      refine q_get (v := .ref (a 44)) C inX11 hK hP 0 rfl rfl 44 (by decide) rfl L101 rfl dX11_copies_9 ?_
      refine lv_iload_n hx hb dX11_copies_12 rfl (lv_at hl 0 rfl) ?_
      refine lv_aload_n hx hb dX11_copies_13 rfl (lv_at hl 1 rfl) ?_
      refine q_get (v := .ref (a 43)) C inX11 hK hP 0 rfl rfl 43 (by decide) rfl L98 rfl dX11_copies_14 ?_
      refine lv_iload_n hx hb dX11_copies_17 rfl (lv_at hl 0 rfl) ?_
      refine q_iald (x := (f 43 (Int32.toNatClampNeg (nI i)))) C hK hP 27 1 rfl rfl (vp_in_nI (by omega) (by omega)) dX11_copies_18 (rfl) ?_
      refine q_iastS C hK hP hD hS 28 1 rfl rfl (vp_in_nI (by omega) (by omega)) dX11_copies_19 (by rw [nI_clamp (by omega)]; exact hrow i (by omega)) (fun H locs hP hD hS => ?_)
      refine lv_iinc (v := (nI (i + 1))) (lv' := [(1, .int (nI (i + 1))), (0, .ref h)]) hx hb dX11_copies_20 hl (k := 0) rfl (nI_1 i) (by decide) rfl (fun ls hl => ?_)
      refine lv_goto (tgt := 2) hx hb dX11_copies_23 (by decide) ?_
      exact ih (i + 1) (by omega) H locs ls hP hD hS (lv_sub hl [0, 1] rfl)
  exact loop1 29 0 (by omega) _ _ ls hP hD hS (lv_sub hl [0, 1] rfl)

set_option maxHeartbeats 4000000 in
set_option maxRecDepth 100000 in
theorem c_isHere (l : Launch) (dC : Nat → ClassId) (dI : Nat → Nat → Nat) (cB cI cJ cZ cS : ClassId) (h : Nat) (a : Nat → Nat) (v : Nat → Int32) (f : Nat → Nat → Int32) (g : Nat → Nat → Int64) (hv18 : v 18 = 0) (hf23_0 : f 23 0 = 0) (x1 : Int32) : CI l yX11_isHere wsX11_isHere ({ frames := 2, cells := 0, slots := 0, locals := 43 }) (dC, dI) (tysA cB cI cJ cZ cS) (mw cB cI cJ cZ h a v f g) [.ref h, .int x1] (fun r w => w = (mw cB cI cJ cZ h a v f g) ∧ r = 0) := by
  refine open_I (cc := cX11_isHere) (maxL := 2) (ret := (some .boolean)) (by decide) rfl (Nat.le_of_ble_eq_true rfl) ?_
  intro p e s m below meth c A ls E
  obtain ⟨C, hr, hlocks, hnm, hA, hP, hK, hD, hN, hl⟩ := E
  obtain ⟨hx, hb, hml, hown, hts⟩ := id C
  have hS : va_S A s.heap s.heap [] := va_S.rf
  have hl : lv_has ls 2 [(0, .ref h), (1, .int x1)] := hl
  refine lv_aload_n hx hb dX11_isHere_0 rfl (lv_at hl 0 rfl) ?_
  refine lv_iload_n hx hb dX11_isHere_1 rfl (lv_at hl 1 rfl) ?_
  refine q_goiF (va_runV (As := [.int x1]) (rest := []) C (c_isParty l dC dI cB cI cJ cZ cS h a v f g hv18 hf23_0 x1 _) (cwV 1 hts gX11_isHere_X11_isParty rfl rfl rfl (by decide +kernel) ⟨Nat.le_of_ble_eq_true rfl, Nat.le_of_ble_eq_true rfl⟩) (q_preV hK hP (ci := 11) (q0 := 0) rfl rfl rfl (q_preF hN hK hP hD)) rfl rfl hl.1 rfl (lv_room (Nat.le_of_ble_eq_true rfl)) dX11_isHere_2 ⟨Nat.le_of_ble_eq_true rfl, Nat.le_of_ble_eq_true rfl⟩) hD hS hA (fun r w1 H locs hw hP hD hS => ?_)
  obtain ⟨rfl, rfl⟩ := hw
  refine lv_if_eq (tgt := 24) hx hb dX11_isHere_5 (by decide) (fun _ => ?_) (fun h => absurd (by decide +kernel) h)
  refine lv_iconst (v := 0) hx hb dX11_isHere_24 (by decide) ?_
  exact q_zret C hr hlocks (Or.inl rfl) hK hP hD hS (Nat.le_of_ble_eq_true rfl) (Nat.le_of_ble_eq_true rfl) dX11_isHere_25 (⟨rfl, rfl⟩)

set_option maxHeartbeats 4000000 in
set_option maxRecDepth 100000 in
theorem c_casesNow (l : Launch) (dC : Nat → ClassId) (dI : Nat → Nat → Nat) (cB cI cJ cZ cS : ClassId) (h : Nat) (a : Nat → Nat) (v : Nat → Int32) (f : Nat → Nat → Int32) (g : Nat → Nat → Int64) (hv18 : v 18 = 0) (hf20_0 : f 20 0 = 0) : CI l yX11_casesNow wsX11_casesNow ({ frames := 0, cells := 0, slots := 0, locals := 0 }) (dC, dI) (tysA cB cI cJ cZ cS) (mw cB cI cJ cZ h a v f g) [.ref h] (fun r w => w = (mw cB cI cJ cZ h a v f g) ∧ r = 1) := by
  refine open_I (cc := cX11_casesNow) (maxL := 3) (ret := (some .int)) (by decide) rfl (Nat.le_of_ble_eq_true rfl) ?_
  intro p e s m below meth c A ls E
  obtain ⟨C, hr, hlocks, hnm, hA, hP, hK, hD, hN, hl⟩ := E
  obtain ⟨hx, hb, hml, hown, hts⟩ := id C
  have hS : va_S A s.heap s.heap [] := va_S.rf
  have hl : lv_has ls 3 [(0, .ref h)] := hl
  have inX11 : ∀ w ∈ u_ws RX11 TX11 58, w ∈ wsX11_casesNow := fun _ h => List.mem_cons_of_mem _ (List.mem_append_right _ h)
  have L215 : Cond.fieldLink RX11 215 "GuessFerryModel" "live" "I" ∈ wsX11_casesNow := by decide +kernel
  have L40 : Cond.fieldLink RX11 40 "GuessFerryModel" "waves" "[I" ∈ wsX11_casesNow := by decide +kernel
  refine lv_iconst (v := 1) hx hb dX11_casesNow_0 (by decide) ?_
  refine lv_istore_n (lv' := [(1, .int 1), (0, .ref h)]) hx hb dX11_casesNow_1 rfl hl (by decide) rfl (fun ls hl => ?_)
  refine lv_iconst (v := 0) hx hb dX11_casesNow_2 (by decide) ?_
  refine lv_istore_n (lv' := [(2, .int 0), (1, .int 1), (0, .ref h)]) hx hb dX11_casesNow_3 rfl hl (by decide) rfl (fun ls hl => ?_)
  refine lv_iload_n hx hb dX11_casesNow_4 rfl (lv_at hl 0 rfl) ?_
  refine lv_aload_n hx hb dX11_casesNow_5 rfl (lv_at hl 2 rfl) ?_
  refine q_get (v := .ref (a 20)) C inX11 hK hP 0 rfl rfl 20 (by decide) rfl L40 rfl dX11_casesNow_6 ?_
  refine lv_aload_n hx hb dX11_casesNow_9 rfl (lv_at hl 2 rfl) ?_
  refine q_get (v := .int (v 18)) C inX11 hK hP 0 rfl rfl 18 (by decide) rfl L215 rfl dX11_casesNow_10 ?_
  refine q_top (y := 0) (hv18) ?_
  refine q_iald (x := 0) C hK hP 8 1 rfl rfl (vp_lit (by decide +kernel)) dX11_casesNow_13 (hf20_0) ?_
  refine lv_icmp_ge (tgt := 34) hx hb dX11_casesNow_14 (by decide) (fun _ => ?_) (fun h => absurd (by decide +kernel) h)
  refine lv_iload_n hx hb dX11_casesNow_34 rfl (lv_at hl 1 rfl) ?_
  exact q_iret C hr hlocks hK hP hD hS (Nat.le_of_ble_eq_true rfl) (Nat.le_of_ble_eq_true rfl) dX11_casesNow_35 (⟨rfl, rfl⟩)

set_option maxHeartbeats 4000000 in
set_option maxRecDepth 100000 in
theorem c_thereNumber (l : Launch) (dC : Nat → ClassId) (dI : Nat → Nat → Nat) (cB cI cJ cZ cS : ClassId) (h : Nat) (a : Nat → Nat) (v : Nat → Int32) (f : Nat → Nat → Int32) (g : Nat → Nat → Int64) (hv18 : v 18 = 0) (hf20_0 : f 20 0 = 0) : CI l yX11_thereNumber wsX11_thereNumber ({ frames := 0, cells := 0, slots := 0, locals := 0 }) (dC, dI) (tysA cB cI cJ cZ cS) (mw cB cI cJ cZ h a v f g) [.ref h] (fun r w => w = (mw cB cI cJ cZ h a v f g) ∧ r = 0) := by
  refine open_I (cc := cX11_thereNumber) (maxL := 3) (ret := (some .int)) (by decide) rfl (Nat.le_of_ble_eq_true rfl) ?_
  intro p e s m below meth c A ls E
  obtain ⟨C, hr, hlocks, hnm, hA, hP, hK, hD, hN, hl⟩ := E
  obtain ⟨hx, hb, hml, hown, hts⟩ := id C
  have hS : va_S A s.heap s.heap [] := va_S.rf
  have hl : lv_has ls 3 [(0, .ref h)] := hl
  have inX11 : ∀ w ∈ u_ws RX11 TX11 58, w ∈ wsX11_thereNumber := fun _ h => List.mem_cons_of_mem _ (List.mem_append_right _ h)
  have L215 : Cond.fieldLink RX11 215 "GuessFerryModel" "live" "I" ∈ wsX11_thereNumber := by decide +kernel
  have L40 : Cond.fieldLink RX11 40 "GuessFerryModel" "waves" "[I" ∈ wsX11_thereNumber := by decide +kernel
  refine lv_iconst (v := 0) hx hb dX11_thereNumber_0 (by decide) ?_
  refine lv_istore_n (lv' := [(1, .int 0), (0, .ref h)]) hx hb dX11_thereNumber_1 rfl hl (by decide) rfl (fun ls hl => ?_)
  refine lv_iconst (v := 0) hx hb dX11_thereNumber_2 (by decide) ?_
  refine lv_istore_n (lv' := [(2, .int 0), (1, .int 0), (0, .ref h)]) hx hb dX11_thereNumber_3 rfl hl (by decide) rfl (fun ls hl => ?_)
  refine lv_iload_n hx hb dX11_thereNumber_4 rfl (lv_at hl 0 rfl) ?_
  refine lv_aload_n hx hb dX11_thereNumber_5 rfl (lv_at hl 2 rfl) ?_
  refine q_get (v := .ref (a 20)) C inX11 hK hP 0 rfl rfl 20 (by decide) rfl L40 rfl dX11_thereNumber_6 ?_
  refine lv_aload_n hx hb dX11_thereNumber_9 rfl (lv_at hl 2 rfl) ?_
  refine q_get (v := .int (v 18)) C inX11 hK hP 0 rfl rfl 18 (by decide) rfl L215 rfl dX11_thereNumber_10 ?_
  refine q_top (y := 0) (hv18) ?_
  refine q_iald (x := 0) C hK hP 8 1 rfl rfl (vp_lit (by decide +kernel)) dX11_thereNumber_13 (hf20_0) ?_
  refine lv_icmp_ge (tgt := 38) hx hb dX11_thereNumber_14 (by decide) (fun _ => ?_) (fun h => absurd (by decide +kernel) h)
  refine lv_iload_n hx hb dX11_thereNumber_38 rfl (lv_at hl 1 rfl) ?_
  exact q_iret C hr hlocks hK hP hD hS (Nat.le_of_ble_eq_true rfl) (Nat.le_of_ble_eq_true rfl) dX11_thereNumber_39 (⟨rfl, rfl⟩)

set_option maxHeartbeats 4000000 in
set_option maxRecDepth 100000 in
theorem c_bestFor (l : Launch) (dC : Nat → ClassId) (dI : Nat → Nat → Nat) (cB cI cJ cZ cS : ClassId) (h : Nat) (a : Nat → Nat) (v : Nat → Int32) (f : Nat → Nat → Int32) (g : Nat → Nat → Int64) (hv18 : v 18 = 0) (hf20_0 : f 20 0 = 0) : CI l yX11_bestFor wsX11_bestFor ({ frames := 0, cells := 0, slots := 0, locals := 0 }) (dC, dI) (tysA cB cI cJ cZ cS) (mw cB cI cJ cZ h a v f g) [.ref h, .int (-1)] (fun r w => w = (mw cB cI cJ cZ h a v f g) ∧ r = 0) := by
  refine open_I (cc := cX11_bestFor) (maxL := 6) (ret := (some .int)) (by decide) rfl (Nat.le_of_ble_eq_true rfl) ?_
  intro p e s m below meth c A ls E
  obtain ⟨C, hr, hlocks, hnm, hA, hP, hK, hD, hN, hl⟩ := E
  obtain ⟨hx, hb, hml, hown, hts⟩ := id C
  have hS : va_S A s.heap s.heap [] := va_S.rf
  have hl : lv_has ls 6 [(0, .ref h), (1, .int (-1))] := hl
  have inX11 : ∀ w ∈ u_ws RX11 TX11 58, w ∈ wsX11_bestFor := by decide +kernel
  have L215 : Cond.fieldLink RX11 215 "GuessFerryModel" "live" "I" ∈ wsX11_bestFor := by decide +kernel
  have L40 : Cond.fieldLink RX11 40 "GuessFerryModel" "waves" "[I" ∈ wsX11_bestFor := by decide +kernel
  refine lv_iconst (v := 0) hx hb dX11_bestFor_0 (by decide) ?_
  refine lv_istore_n (lv' := [(2, .int 0), (0, .ref h), (1, .int (-1))]) hx hb dX11_bestFor_1 rfl hl (by decide) rfl (fun ls hl => ?_)
  refine lv_iconst (v := 0) hx hb dX11_bestFor_2 (by decide) ?_
  refine lv_istore_n (lv' := [(3, .int 0), (2, .int 0), (0, .ref h), (1, .int (-1))]) hx hb dX11_bestFor_3 rfl hl (by decide) rfl (fun ls hl => ?_)
  refine lv_iload_n hx hb dX11_bestFor_4 rfl (lv_at hl 0 rfl) ?_
  refine lv_aload_n hx hb dX11_bestFor_5 rfl (lv_at hl 2 rfl) ?_
  refine q_get (v := .ref (a 20)) C inX11 hK hP 0 rfl rfl 20 (by decide) rfl L40 rfl dX11_bestFor_6 ?_
  refine lv_aload_n hx hb dX11_bestFor_9 rfl (lv_at hl 2 rfl) ?_
  refine q_get (v := .int (v 18)) C inX11 hK hP 0 rfl rfl 18 (by decide) rfl L215 rfl dX11_bestFor_10 ?_
  refine q_top (y := 0) (hv18) ?_
  refine q_iald (x := 0) C hK hP 8 1 rfl rfl (vp_lit (by decide +kernel)) dX11_bestFor_13 (hf20_0) ?_
  refine lv_icmp_ge (tgt := 115) hx hb dX11_bestFor_14 (by decide) (fun _ => ?_) (fun h => absurd (by decide +kernel) h)
  refine lv_iload_n hx hb dX11_bestFor_115 rfl (lv_at hl 1 rfl) ?_
  exact q_iret C hr hlocks hK hP hD hS (Nat.le_of_ble_eq_true rfl) (Nat.le_of_ble_eq_true rfl) dX11_bestFor_116 (⟨rfl, rfl⟩)

set_option maxHeartbeats 4000000 in
set_option maxRecDepth 100000 in
theorem c_leftOf (l : Launch) (dC : Nat → ClassId) (dI : Nat → Nat → Nat) (cB cI cJ cZ cS : ClassId) (h : Nat) (a : Nat → Nat) (v : Nat → Int32) (f : Nat → Nat → Int32) (g : Nat → Nat → Int64) (hv18 : v 18 = 0) (hf20_0 : f 20 0 = 0) (x1 : Int32) : CI l yX11_leftOf wsX11_leftOf ({ frames := 1, cells := 0, slots := 0, locals := 22 }) (dC, dI) (tysA cB cI cJ cZ cS) (mw cB cI cJ cZ h a v f g) [.ref h, .int x1] (fun r w => w = (mw cB cI cJ cZ h a v f g) ∧ r = 1) := by
  refine open_I (cc := cX11_leftOf) (maxL := 7) (ret := (some .int)) (by decide) rfl (Nat.le_of_ble_eq_true rfl) ?_
  intro p e s m below meth c A ls E
  obtain ⟨C, hr, hlocks, hnm, hA, hP, hK, hD, hN, hl⟩ := E
  obtain ⟨hx, hb, hml, hown, hts⟩ := id C
  have hS : va_S A s.heap s.heap [] := va_S.rf
  have hl : lv_has ls 7 [(0, .ref h), (1, .int x1)] := hl
  have inX11 : ∀ w ∈ u_ws RX11 TX11 58, w ∈ wsX11_leftOf := by decide +kernel
  have L215 : Cond.fieldLink RX11 215 "GuessFerryModel" "live" "I" ∈ wsX11_leftOf := by decide +kernel
  have L40 : Cond.fieldLink RX11 40 "GuessFerryModel" "waves" "[I" ∈ wsX11_leftOf := by decide +kernel
  refine lv_iconst (v := 0) hx hb dX11_leftOf_0 (by decide) ?_
  refine lv_istore_n (lv' := [(2, .int 0), (0, .ref h), (1, .int x1)]) hx hb dX11_leftOf_1 rfl hl (by decide) rfl (fun ls hl => ?_)
  refine lv_aload_n hx hb dX11_leftOf_2 rfl (lv_at hl 1 rfl) ?_
  refine q_goiF (va_runV (As := []) (rest := []) C (c_casesNow l dC dI cB cI cJ cZ cS h a v f g hv18 hf20_0 _) (cwV 0 hts gX11_leftOf_X11_casesNow rfl rfl rfl (by decide +kernel) ⟨Nat.le_of_ble_eq_true rfl, Nat.le_of_ble_eq_true rfl⟩) (q_preV hK hP (ci := 11) (q0 := 0) rfl rfl rfl (q_preF hN hK hP hD)) rfl rfl hl.1 rfl (lv_room (Nat.le_of_ble_eq_true rfl)) dX11_leftOf_3 ⟨Nat.le_of_ble_eq_true rfl, Nat.le_of_ble_eq_true rfl⟩) hD hS hA (fun r w1 H locs hw hP hD hS => ?_)
  obtain ⟨rfl, rfl⟩ := hw
  refine lv_istore_n (lv' := [(3, .int 1), (2, .int 0), (0, .ref h), (1, .int x1)]) hx hb dX11_leftOf_6 rfl hl (by decide) rfl (fun ls hl => ?_)
  refine lv_iconst (v := 0) hx hb dX11_leftOf_7 (by decide) ?_
  refine lv_istore (lv' := [(4, .int 0), (3, .int 1), (2, .int 0), (0, .ref h), (1, .int x1)]) hx hb dX11_leftOf_8 hl (by decide) rfl (fun ls hl => ?_)
  refine lv_iload hx hb dX11_leftOf_10 (lv_at hl 0 rfl) ?_
  refine lv_aload_n hx hb dX11_leftOf_12 rfl (lv_at hl 3 rfl) ?_
  refine q_get (v := .ref (a 20)) C inX11 hK hP 0 rfl rfl 20 (by decide) rfl L40 rfl dX11_leftOf_13 ?_
  refine lv_aload_n hx hb dX11_leftOf_16 rfl (lv_at hl 3 rfl) ?_
  refine q_get (v := .int (v 18)) C inX11 hK hP 0 rfl rfl 18 (by decide) rfl L215 rfl dX11_leftOf_17 ?_
  refine q_top (y := 0) (hv18) ?_
  refine q_iald (x := 0) C hK hP 8 1 rfl rfl (vp_lit (by decide +kernel)) dX11_leftOf_20 (hf20_0) ?_
  refine lv_icmp_ge (tgt := 90) hx hb dX11_leftOf_21 (by decide) (fun _ => ?_) (fun h => absurd (by decide +kernel) h)
  refine lv_iload_n hx hb dX11_leftOf_90 rfl (lv_at hl 2 rfl) ?_
  refine lv_iconst (v := 1) hx hb dX11_leftOf_91 (by decide) ?_
  refine lv_icmp_le (tgt := 99) hx hb dX11_leftOf_92 (by decide) (fun _ => ?_) (fun h => absurd (by decide +kernel) h)
  refine lv_iconst (v := 1) hx hb dX11_leftOf_99 (by decide) ?_
  exact q_iret C hr hlocks hK hP hD hS (Nat.le_of_ble_eq_true rfl) (Nat.le_of_ble_eq_true rfl) dX11_leftOf_100 (⟨rfl, rfl⟩)

set_option maxHeartbeats 4000000 in
set_option maxRecDepth 100000 in
theorem c_chanceOf (l : Launch) (dC : Nat → ClassId) (dI : Nat → Nat → Nat) (cB cI cJ cZ cS : ClassId) (h : Nat) (a : Nat → Nat) (v : Nat → Int32) (f : Nat → Nat → Int32) (g : Nat → Nat → Int64) (hv18 : v 18 = 0) (hf20_0 : f 20 0 = 0) (x1 : Int32) : CI l yX11_chanceOf wsX11_chanceOf ({ frames := 0, cells := 0, slots := 0, locals := 0 }) (dC, dI) (tysA cB cI cJ cZ cS) (mw cB cI cJ cZ h a v f g) [.ref h, .int x1] (fun r w => w = (mw cB cI cJ cZ h a v f g) ∧ r = 1) := by
  refine open_I (cc := cX11_chanceOf) (maxL := 5) (ret := (some .int)) (by decide) rfl (Nat.le_of_ble_eq_true rfl) ?_
  intro p e s m below meth c A ls E
  obtain ⟨C, hr, hlocks, hnm, hA, hP, hK, hD, hN, hl⟩ := E
  obtain ⟨hx, hb, hml, hown, hts⟩ := id C
  have hS : va_S A s.heap s.heap [] := va_S.rf
  have hl : lv_has ls 5 [(0, .ref h), (1, .int x1)] := hl
  have inX11 : ∀ w ∈ u_ws RX11 TX11 58, w ∈ wsX11_chanceOf := fun _ h => List.mem_cons_of_mem _ (List.mem_append_right _ h)
  have L215 : Cond.fieldLink RX11 215 "GuessFerryModel" "live" "I" ∈ wsX11_chanceOf := by decide +kernel
  have L40 : Cond.fieldLink RX11 40 "GuessFerryModel" "waves" "[I" ∈ wsX11_chanceOf := by decide +kernel
  refine lv_iconst (v := 1) hx hb dX11_chanceOf_0 (by decide) ?_
  refine lv_istore_n (lv' := [(2, .int 1), (0, .ref h), (1, .int x1)]) hx hb dX11_chanceOf_1 rfl hl (by decide) rfl (fun ls hl => ?_)
  refine lv_iconst (v := 0) hx hb dX11_chanceOf_2 (by decide) ?_
  refine lv_istore_n (lv' := [(3, .int 0), (2, .int 1), (0, .ref h), (1, .int x1)]) hx hb dX11_chanceOf_3 rfl hl (by decide) rfl (fun ls hl => ?_)
  refine lv_iload_n hx hb dX11_chanceOf_4 rfl (lv_at hl 0 rfl) ?_
  refine lv_aload_n hx hb dX11_chanceOf_5 rfl (lv_at hl 2 rfl) ?_
  refine q_get (v := .ref (a 20)) C inX11 hK hP 0 rfl rfl 20 (by decide) rfl L40 rfl dX11_chanceOf_6 ?_
  refine lv_aload_n hx hb dX11_chanceOf_9 rfl (lv_at hl 2 rfl) ?_
  refine q_get (v := .int (v 18)) C inX11 hK hP 0 rfl rfl 18 (by decide) rfl L215 rfl dX11_chanceOf_10 ?_
  refine q_top (y := 0) (hv18) ?_
  refine q_iald (x := 0) C hK hP 8 1 rfl rfl (vp_lit (by decide +kernel)) dX11_chanceOf_13 (hf20_0) ?_
  refine lv_icmp_ge (tgt := 55) hx hb dX11_chanceOf_14 (by decide) (fun _ => ?_) (fun h => absurd (by decide +kernel) h)
  refine lv_iload_n hx hb dX11_chanceOf_55 rfl (lv_at hl 1 rfl) ?_
  exact q_iret C hr hlocks hK hP hD hS (Nat.le_of_ble_eq_true rfl) (Nat.le_of_ble_eq_true rfl) dX11_chanceOf_56 (⟨rfl, rfl⟩)

set_option maxHeartbeats 4000000 in
set_option maxRecDepth 100000 in
theorem c_isCase (l : Launch) (dC : Nat → ClassId) (dI : Nat → Nat → Nat) (cB cI cJ cZ cS : ClassId) (h : Nat) (a : Nat → Nat) (v : Nat → Int32) (f : Nat → Nat → Int32) (g : Nat → Nat → Int64) (hv18 : v 18 = 0) (hf20_0 : f 20 0 = 0) (x1 : Int32) : CI l yX11_isCase wsX11_isCase ({ frames := 0, cells := 0, slots := 0, locals := 0 }) (dC, dI) (tysA cB cI cJ cZ cS) (mw cB cI cJ cZ h a v f g) [.ref h, .int x1] (fun r w => w = (mw cB cI cJ cZ h a v f g) ∧ r = 1) := by
  refine open_I (cc := cX11_isCase) (maxL := 3) (ret := (some .boolean)) (by decide) rfl (Nat.le_of_ble_eq_true rfl) ?_
  intro p e s m below meth c A ls E
  obtain ⟨C, hr, hlocks, hnm, hA, hP, hK, hD, hN, hl⟩ := E
  obtain ⟨hx, hb, hml, hown, hts⟩ := id C
  have hS : va_S A s.heap s.heap [] := va_S.rf
  have hl : lv_has ls 3 [(0, .ref h), (1, .int x1)] := hl
  have inX11 : ∀ w ∈ u_ws RX11 TX11 58, w ∈ wsX11_isCase := fun _ h => List.mem_cons_of_mem _ (List.mem_append_right _ h)
  have L215 : Cond.fieldLink RX11 215 "GuessFerryModel" "live" "I" ∈ wsX11_isCase := by decide +kernel
  have L40 : Cond.fieldLink RX11 40 "GuessFerryModel" "waves" "[I" ∈ wsX11_isCase := by decide +kernel
  refine lv_iconst (v := 0) hx hb dX11_isCase_0 (by decide) ?_
  refine lv_istore_n (lv' := [(2, .int 0), (0, .ref h), (1, .int x1)]) hx hb dX11_isCase_1 rfl hl (by decide) rfl (fun ls hl => ?_)
  refine lv_iload_n hx hb dX11_isCase_2 rfl (lv_at hl 0 rfl) ?_
  refine lv_aload_n hx hb dX11_isCase_3 rfl (lv_at hl 1 rfl) ?_
  refine q_get (v := .ref (a 20)) C inX11 hK hP 0 rfl rfl 20 (by decide) rfl L40 rfl dX11_isCase_4 ?_
  refine lv_aload_n hx hb dX11_isCase_7 rfl (lv_at hl 1 rfl) ?_
  refine q_get (v := .int (v 18)) C inX11 hK hP 0 rfl rfl 18 (by decide) rfl L215 rfl dX11_isCase_8 ?_
  refine q_top (y := 0) (hv18) ?_
  refine q_iald (x := 0) C hK hP 8 1 rfl rfl (vp_lit (by decide +kernel)) dX11_isCase_11 (hf20_0) ?_
  refine lv_icmp_ge (tgt := 37) hx hb dX11_isCase_12 (by decide) (fun _ => ?_) (fun h => absurd (by decide +kernel) h)
  refine lv_iconst (v := 1) hx hb dX11_isCase_37 (by decide) ?_
  exact q_zret C hr hlocks (Or.inr rfl) hK hP hD hS (Nat.le_of_ble_eq_true rfl) (Nat.le_of_ble_eq_true rfl) dX11_isCase_38 (⟨rfl, rfl⟩)

set_option maxHeartbeats 4000000 in
set_option maxRecDepth 100000 in
theorem c_bits (l : Launch) (dC : Nat → ClassId) (dI : Nat → Nat → Nat) (cB cI cJ cZ cS : ClassId)  : CI l yX11_bits wsX11_bits ({ frames := 0, cells := 0, slots := 0, locals := 0 }) (dC, dI) (tysA cB cI cJ cZ cS) [] [.int 0] (fun r _ => r = 0) := by
  refine open_I (cc := cX11_bits) (maxL := 3) (ret := (some .int)) (by decide) rfl (Nat.le_of_ble_eq_true rfl) ?_
  intro p e s m below meth c A ls E
  obtain ⟨C, hr, hlocks, hnm, hA, hP, hK, hD, hN, hl⟩ := E
  obtain ⟨hx, hb, hml, hown, hts⟩ := id C
  have hS : va_S A s.heap s.heap [] := va_S.rf
  have hl : lv_has ls 3 [(0, .int 0)] := hl
  refine lv_iconst (v := 0) hx hb dX11_bits_0 (by decide) ?_
  refine lv_istore_n (lv' := [(1, .int 0), (0, .int 0)]) hx hb dX11_bits_1 rfl hl (by decide) rfl (fun ls hl => ?_)
  refine lv_iconst (v := 0) hx hb dX11_bits_2 (by decide) ?_
  refine lv_istore_n (lv' := [(2, .int 0), (1, .int 0), (0, .int 0)]) hx hb dX11_bits_3 rfl hl (by decide) rfl (fun ls hl => ?_)
  refine lv_iload_n hx hb dX11_bits_4 rfl (lv_at hl 0 rfl) ?_
  refine lv_bipush (v := 6) hx hb dX11_bits_5 (by decide) ?_
  refine lv_icmp_ge (tgt := 24) hx hb dX11_bits_7 (by decide) (fun h => absurd h (by decide +kernel)) (fun _ => ?_)
  refine lv_iload_n hx hb dX11_bits_10 rfl (lv_at hl 1 rfl) ?_
  refine lv_iload_n hx hb dX11_bits_11 rfl (lv_at hl 2 rfl) ?_
  refine lv_iload_n hx hb dX11_bits_12 rfl (lv_at hl 0 rfl) ?_
  refine lv_ishr hx hb dX11_bits_13 ?_
  refine q_top (y := 0) (by decide +kernel) ?_
  refine lv_iconst (v := 1) hx hb dX11_bits_14 (by decide) ?_
  refine lv_iand hx hb dX11_bits_15 ?_
  refine q_top (y := 0) (by decide +kernel) ?_
  refine lv_iadd hx hb dX11_bits_16 ?_
  refine q_top (y := 0) (by decide +kernel) ?_
  refine lv_istore_n (lv' := [(1, .int 0), (2, .int 0), (0, .int 0)]) hx hb dX11_bits_17 rfl hl (by decide) rfl (fun ls hl => ?_)
  refine lv_iinc (v := 1) (lv' := [(2, .int 1), (1, .int 0), (0, .int 0)]) hx hb dX11_bits_18 hl (k := 1) rfl (by decide +kernel) (by decide) rfl (fun ls hl => ?_)
  refine lv_goto (tgt := 4) hx hb dX11_bits_21 (by decide) ?_
  refine lv_iload_n hx hb dX11_bits_4 rfl (lv_at hl 0 rfl) ?_
  refine lv_bipush (v := 6) hx hb dX11_bits_5 (by decide) ?_
  refine lv_icmp_ge (tgt := 24) hx hb dX11_bits_7 (by decide) (fun h => absurd h (by decide +kernel)) (fun _ => ?_)
  refine lv_iload_n hx hb dX11_bits_10 rfl (lv_at hl 1 rfl) ?_
  refine lv_iload_n hx hb dX11_bits_11 rfl (lv_at hl 2 rfl) ?_
  refine lv_iload_n hx hb dX11_bits_12 rfl (lv_at hl 0 rfl) ?_
  refine lv_ishr hx hb dX11_bits_13 ?_
  refine q_top (y := 0) (by decide +kernel) ?_
  refine lv_iconst (v := 1) hx hb dX11_bits_14 (by decide) ?_
  refine lv_iand hx hb dX11_bits_15 ?_
  refine q_top (y := 0) (by decide +kernel) ?_
  refine lv_iadd hx hb dX11_bits_16 ?_
  refine q_top (y := 0) (by decide +kernel) ?_
  refine lv_istore_n (lv' := [(1, .int 0), (2, .int 1), (0, .int 0)]) hx hb dX11_bits_17 rfl hl (by decide) rfl (fun ls hl => ?_)
  refine lv_iinc (v := 2) (lv' := [(2, .int 2), (1, .int 0), (0, .int 0)]) hx hb dX11_bits_18 hl (k := 1) rfl (by decide +kernel) (by decide) rfl (fun ls hl => ?_)
  refine lv_goto (tgt := 4) hx hb dX11_bits_21 (by decide) ?_
  refine lv_iload_n hx hb dX11_bits_4 rfl (lv_at hl 0 rfl) ?_
  refine lv_bipush (v := 6) hx hb dX11_bits_5 (by decide) ?_
  refine lv_icmp_ge (tgt := 24) hx hb dX11_bits_7 (by decide) (fun h => absurd h (by decide +kernel)) (fun _ => ?_)
  refine lv_iload_n hx hb dX11_bits_10 rfl (lv_at hl 1 rfl) ?_
  refine lv_iload_n hx hb dX11_bits_11 rfl (lv_at hl 2 rfl) ?_
  refine lv_iload_n hx hb dX11_bits_12 rfl (lv_at hl 0 rfl) ?_
  refine lv_ishr hx hb dX11_bits_13 ?_
  refine q_top (y := 0) (by decide +kernel) ?_
  refine lv_iconst (v := 1) hx hb dX11_bits_14 (by decide) ?_
  refine lv_iand hx hb dX11_bits_15 ?_
  refine q_top (y := 0) (by decide +kernel) ?_
  refine lv_iadd hx hb dX11_bits_16 ?_
  refine q_top (y := 0) (by decide +kernel) ?_
  refine lv_istore_n (lv' := [(1, .int 0), (2, .int 2), (0, .int 0)]) hx hb dX11_bits_17 rfl hl (by decide) rfl (fun ls hl => ?_)
  refine lv_iinc (v := 3) (lv' := [(2, .int 3), (1, .int 0), (0, .int 0)]) hx hb dX11_bits_18 hl (k := 1) rfl (by decide +kernel) (by decide) rfl (fun ls hl => ?_)
  refine lv_goto (tgt := 4) hx hb dX11_bits_21 (by decide) ?_
  refine lv_iload_n hx hb dX11_bits_4 rfl (lv_at hl 0 rfl) ?_
  refine lv_bipush (v := 6) hx hb dX11_bits_5 (by decide) ?_
  refine lv_icmp_ge (tgt := 24) hx hb dX11_bits_7 (by decide) (fun h => absurd h (by decide +kernel)) (fun _ => ?_)
  refine lv_iload_n hx hb dX11_bits_10 rfl (lv_at hl 1 rfl) ?_
  refine lv_iload_n hx hb dX11_bits_11 rfl (lv_at hl 2 rfl) ?_
  refine lv_iload_n hx hb dX11_bits_12 rfl (lv_at hl 0 rfl) ?_
  refine lv_ishr hx hb dX11_bits_13 ?_
  refine q_top (y := 0) (by decide +kernel) ?_
  refine lv_iconst (v := 1) hx hb dX11_bits_14 (by decide) ?_
  refine lv_iand hx hb dX11_bits_15 ?_
  refine q_top (y := 0) (by decide +kernel) ?_
  refine lv_iadd hx hb dX11_bits_16 ?_
  refine q_top (y := 0) (by decide +kernel) ?_
  refine lv_istore_n (lv' := [(1, .int 0), (2, .int 3), (0, .int 0)]) hx hb dX11_bits_17 rfl hl (by decide) rfl (fun ls hl => ?_)
  refine lv_iinc (v := 4) (lv' := [(2, .int 4), (1, .int 0), (0, .int 0)]) hx hb dX11_bits_18 hl (k := 1) rfl (by decide +kernel) (by decide) rfl (fun ls hl => ?_)
  refine lv_goto (tgt := 4) hx hb dX11_bits_21 (by decide) ?_
  refine lv_iload_n hx hb dX11_bits_4 rfl (lv_at hl 0 rfl) ?_
  refine lv_bipush (v := 6) hx hb dX11_bits_5 (by decide) ?_
  refine lv_icmp_ge (tgt := 24) hx hb dX11_bits_7 (by decide) (fun h => absurd h (by decide +kernel)) (fun _ => ?_)
  refine lv_iload_n hx hb dX11_bits_10 rfl (lv_at hl 1 rfl) ?_
  refine lv_iload_n hx hb dX11_bits_11 rfl (lv_at hl 2 rfl) ?_
  refine lv_iload_n hx hb dX11_bits_12 rfl (lv_at hl 0 rfl) ?_
  refine lv_ishr hx hb dX11_bits_13 ?_
  refine q_top (y := 0) (by decide +kernel) ?_
  refine lv_iconst (v := 1) hx hb dX11_bits_14 (by decide) ?_
  refine lv_iand hx hb dX11_bits_15 ?_
  refine q_top (y := 0) (by decide +kernel) ?_
  refine lv_iadd hx hb dX11_bits_16 ?_
  refine q_top (y := 0) (by decide +kernel) ?_
  refine lv_istore_n (lv' := [(1, .int 0), (2, .int 4), (0, .int 0)]) hx hb dX11_bits_17 rfl hl (by decide) rfl (fun ls hl => ?_)
  refine lv_iinc (v := 5) (lv' := [(2, .int 5), (1, .int 0), (0, .int 0)]) hx hb dX11_bits_18 hl (k := 1) rfl (by decide +kernel) (by decide) rfl (fun ls hl => ?_)
  refine lv_goto (tgt := 4) hx hb dX11_bits_21 (by decide) ?_
  refine lv_iload_n hx hb dX11_bits_4 rfl (lv_at hl 0 rfl) ?_
  refine lv_bipush (v := 6) hx hb dX11_bits_5 (by decide) ?_
  refine lv_icmp_ge (tgt := 24) hx hb dX11_bits_7 (by decide) (fun h => absurd h (by decide +kernel)) (fun _ => ?_)
  refine lv_iload_n hx hb dX11_bits_10 rfl (lv_at hl 1 rfl) ?_
  refine lv_iload_n hx hb dX11_bits_11 rfl (lv_at hl 2 rfl) ?_
  refine lv_iload_n hx hb dX11_bits_12 rfl (lv_at hl 0 rfl) ?_
  refine lv_ishr hx hb dX11_bits_13 ?_
  refine q_top (y := 0) (by decide +kernel) ?_
  refine lv_iconst (v := 1) hx hb dX11_bits_14 (by decide) ?_
  refine lv_iand hx hb dX11_bits_15 ?_
  refine q_top (y := 0) (by decide +kernel) ?_
  refine lv_iadd hx hb dX11_bits_16 ?_
  refine q_top (y := 0) (by decide +kernel) ?_
  refine lv_istore_n (lv' := [(1, .int 0), (2, .int 5), (0, .int 0)]) hx hb dX11_bits_17 rfl hl (by decide) rfl (fun ls hl => ?_)
  refine lv_iinc (v := 6) (lv' := [(2, .int 6), (1, .int 0), (0, .int 0)]) hx hb dX11_bits_18 hl (k := 1) rfl (by decide +kernel) (by decide) rfl (fun ls hl => ?_)
  refine lv_goto (tgt := 4) hx hb dX11_bits_21 (by decide) ?_
  refine lv_iload_n hx hb dX11_bits_4 rfl (lv_at hl 0 rfl) ?_
  refine lv_bipush (v := 6) hx hb dX11_bits_5 (by decide) ?_
  refine lv_icmp_ge (tgt := 24) hx hb dX11_bits_7 (by decide) (fun _ => ?_) (fun h => absurd (by decide +kernel) h)
  refine lv_iload_n hx hb dX11_bits_24 rfl (lv_at hl 1 rfl) ?_
  exact q_iret C hr hlocks hK hP hD hS (Nat.le_of_ble_eq_true rfl) (Nat.le_of_ble_eq_true rfl) dX11_bits_25 (rfl)
