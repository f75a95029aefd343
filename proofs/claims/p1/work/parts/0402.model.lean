set_option maxRecDepth 20000 in
theorem ggX11_chance_X11_isGuess : GoodIn wsX11_chance wsX11_isGuess := goodIn_r _ [5, 6, 7, 8, 4, 9, 10, 11, 12, 13, 14, 15, 45, 46, 47, 48, 49, 50, 51, 52, 53, 54, 55, 56, 57, 58, 59, 60, 61, 62, 63, 64, 65, 66, 67, 68, 69, 70, 71, 72, 73, 74, 75, 76, 77, 78, 79, 80, 81, 82, 83, 84, 85, 86, 87, 88, 89, 90, 91, 92, 93, 94, 95, 96, 97, 98, 99, 100, 101, 102] (by decide +kernel) (by decide +kernel)
set_option maxRecDepth 20000 in
theorem gX11_chance_X11_isGuess : GoodIn wsX11_chance (wsV RX11 367 RX11 yX11_isGuess wsX11_isGuess) := goodIn_app (goodIn_of _ (by decide +kernel)) ggX11_chance_X11_isGuess
set_option maxRecDepth 20000 in
theorem ggX11_chance_X11_copies : GoodIn wsX11_chance wsX11_copies := goodIn_r _ [19, 20, 21, 22, 12, 23, 45, 46, 47, 48, 49, 50, 51, 52, 53, 54, 55, 56, 57, 58, 59, 60, 61, 62, 63, 64, 65, 66, 67, 68, 69, 70, 71, 72, 73, 74, 75, 76, 77, 78, 79, 80, 81, 82, 83, 84, 85, 86, 87, 88, 89, 90, 91, 92, 93, 94, 95, 96, 97, 98, 99, 100, 101, 102] (by decide +kernel) (by decide +kernel)
set_option maxRecDepth 20000 in
theorem gX11_chance_X11_copies : GoodIn wsX11_chance (wsV RX11 352 RX11 yX11_copies wsX11_copies) := goodIn_app (goodIn_of _ (by decide +kernel)) ggX11_chance_X11_copies
set_option maxRecDepth 20000 in
theorem ggX11_chance_X11_chanceOf : GoodIn wsX11_chance wsX11_chanceOf := goodIn_r _ [27, 11, 12, 28, 29, 30, 4, 31, 10, 32, 33, 34, 35, 36, 37, 38, 39, 20, 40, 41, 42, 43, 44, 45, 46, 47, 48, 49, 50, 51, 52, 53, 54, 55, 56, 57, 58, 59, 60, 61, 62, 63, 64, 65, 66, 67, 68, 69, 70, 71, 72, 73, 74, 75, 76, 77, 78, 79, 80, 81, 82, 83, 84, 85, 86, 87, 88, 89, 90, 91, 92, 93, 94, 95, 96, 97, 98, 99, 100, 101, 102] (by decide +kernel) (by decide +kernel)
set_option maxRecDepth 20000 in
theorem gX11_chance_X11_chanceOf : GoodIn wsX11_chance (wsV RX11 392 RX11 yX11_chanceOf wsX11_chanceOf) := goodIn_app (goodIn_of _ (by decide +kernel)) ggX11_chance_X11_chanceOf
theorem dX11_chance_0 : decode cX11_chance 0 = .ok (.aload_n 0, 1) := by decide +kernel
theorem dX11_chance_1 : decode cX11_chance 1 = .ok (.iload_n 1, 1) := by decide +kernel
theorem dX11_chance_2 : decode cX11_chance 2 = .ok (.invokevirtual 367, 3) := by decide +kernel
theorem dX11_chance_5 : decode cX11_chance 5 = .ok (.ifCond .ne 5, 3) := by decide +kernel
theorem dX11_chance_8 : decode cX11_chance 8 = .ok (.iconst (-1), 1) := by decide +kernel
theorem dX11_chance_9 : decode cX11_chance 9 = .ok (.ireturn, 1) := by decide +kernel
theorem dX11_chance_10 : decode cX11_chance 10 = .ok (.aload_n 0, 1) := by decide +kernel
theorem dX11_chance_11 : decode cX11_chance 11 = .ok (.invokevirtual 352, 3) := by decide +kernel
theorem dX11_chance_14 : decode cX11_chance 14 = .ok (.aload_n 0, 1) := by decide +kernel
theorem dX11_chance_15 : decode cX11_chance 15 = .ok (.iload_n 1, 1) := by decide +kernel
theorem dX11_chance_16 : decode cX11_chance 16 = .ok (.invokevirtual 392, 3) := by decide +kernel
theorem dX11_chance_19 : decode cX11_chance 19 = .ok (.ireturn, 1) := by decide +kernel
set_option maxRecDepth 20000 in
theorem ggX11_enough_X11_copies : GoodIn wsX11_enough wsX11_copies := goodIn_r _ [7, 8, 9, 10, 2, 11, 28, 29, 30, 31, 32, 33, 34, 35, 36, 37, 38, 39, 40, 41, 42, 43, 44, 45, 46, 47, 48, 49, 50, 51, 52, 53, 54, 55, 56, 57, 58, 59, 60, 61, 62, 63, 64, 65, 66, 67, 68, 69, 70, 71, 72, 73, 74, 75, 76, 77, 78, 79, 80, 81, 82, 83, 84, 85] (by decide +kernel) (by decide +kernel)
set_option maxRecDepth 20000 in
theorem gX11_enough_X11_copies : GoodIn wsX11_enough (wsV RX11 352 RX11 yX11_copies wsX11_copies) := goodIn_app (goodIn_of _ (by decide +kernel)) ggX11_enough_X11_copies
set_option maxRecDepth 20000 in
theorem ggX11_enough_X11_casesNow : GoodIn wsX11_enough wsX11_casesNow := goodIn_r _ [15, 1, 2, 16, 17, 18, 6, 19, 8, 20, 21, 22, 23, 24, 25, 26, 27, 28, 29, 30, 31, 32, 33, 34, 35, 36, 37, 38, 39, 40, 41, 42, 43, 44, 45, 46, 47, 48, 49, 50, 51, 52, 53, 54, 55, 56, 57, 58, 59, 60, 61, 62, 63, 64, 65, 66, 67, 68, 69, 70, 71, 72, 73, 74, 75, 76, 77, 78, 79, 80, 81, 82, 83, 84, 85] (by decide +kernel) (by decide +kernel)
set_option maxRecDepth 20000 in
theorem gX11_enough_X11_casesNow : GoodIn wsX11_enough (wsV RX11 385 RX11 yX11_casesNow wsX11_casesNow) := goodIn_app (goodIn_of _ (by decide +kernel)) ggX11_enough_X11_casesNow
theorem dX11_enough_0 : decode cX11_enough 0 = .ok (.aload_n 0, 1) := by decide +kernel
theorem dX11_enough_1 : decode cX11_enough 1 = .ok (.invokevirtual 352, 3) := by decide +kernel
theorem dX11_enough_4 : decode cX11_enough 4 = .ok (.aload_n 0, 1) := by decide +kernel
theorem dX11_enough_5 : decode cX11_enough 5 = .ok (.invokevirtual 385, 3) := by decide +kernel
theorem dX11_enough_8 : decode cX11_enough 8 = .ok (.ifCond .ne 6, 3) := by decide +kernel
theorem dX11_enough_14 : decode cX11_enough 14 = .ok (.iconst 1, 1) := by decide +kernel
theorem dX11_enough_15 : decode cX11_enough 15 = .ok (.istore_n 1, 1) := by decide +kernel
theorem dX11_enough_16 : decode cX11_enough 16 = .ok (.iconst 0, 1) := by decide +kernel
theorem dX11_enough_17 : decode cX11_enough 17 = .ok (.istore_n 2, 1) := by decide +kernel
theorem dX11_enough_18 : decode cX11_enough 18 = .ok (.iload_n 2, 1) := by decide +kernel
theorem dX11_enough_19 : decode cX11_enough 19 = .ok (.aload_n 0, 1) := by decide +kernel
theorem dX11_enough_20 : decode cX11_enough 20 = .ok (.getfield 40, 3) := by decide +kernel
theorem dX11_enough_23 : decode cX11_enough 23 = .ok (.aload_n 0, 1) := by decide +kernel
theorem dX11_enough_24 : decode cX11_enough 24 = .ok (.getfield 215, 3) := by decide +kernel
theorem dX11_enough_27 : decode cX11_enough 27 = .ok (.iaload, 1) := by decide +kernel
theorem dX11_enough_28 : decode cX11_enough 28 = .ok (.if_icmp .ge 22, 3) := by decide +kernel
theorem dX11_enough_50 : decode cX11_enough 50 = .ok (.iload_n 1, 1) := by decide +kernel
theorem dX11_enough_51 : decode cX11_enough 51 = .ok (.ireturn, 1) := by decide +kernel
set_option maxRecDepth 20000 in
theorem ggX11_left_X11_isGuess : GoodIn wsX11_left wsX11_isGuess := goodIn_r _ [5, 6, 7, 8, 4, 9, 10, 11, 12, 13, 14, 15, 48, 49, 50, 51, 52, 53, 54, 55, 56, 57, 58, 59, 60, 61, 62, 63, 64, 65, 66, 67, 68, 69, 70, 71, 72, 73, 74, 75, 76, 77, 78, 79, 80, 81, 82, 83, 84, 85, 86, 87, 88, 89, 90, 91, 92, 93, 94, 95, 96, 97, 98, 99, 100, 101, 102, 103, 104, 105] (by decide +kernel) (by decide +kernel)
set_option maxRecDepth 20000 in
theorem gX11_left_X11_isGuess : GoodIn wsX11_left (wsV RX11 367 RX11 yX11_isGuess wsX11_isGuess) := goodIn_app (goodIn_of _ (by decide +kernel)) ggX11_left_X11_isGuess
set_option maxRecDepth 20000 in
theorem ggX11_left_X11_copies : GoodIn wsX11_left wsX11_copies := goodIn_r _ [19, 20, 21, 22, 12, 23, 48, 49, 50, 51, 52, 53, 54, 55, 56, 57, 58, 59, 60, 61, 62, 63, 64, 65, 66, 67, 68, 69, 70, 71, 72, 73, 74, 75, 76, 77, 78, 79, 80, 81, 82, 83, 84, 85, 86, 87, 88, 89, 90, 91, 92, 93, 94, 95, 96, 97, 98, 99, 100, 101, 102, 103, 104, 105] (by decide +kernel) (by decide +kernel)
set_option maxRecDepth 20000 in
theorem gX11_left_X11_copies : GoodIn wsX11_left (wsV RX11 352 RX11 yX11_copies wsX11_copies) := goodIn_app (goodIn_of _ (by decide +kernel)) ggX11_left_X11_copies
set_option maxRecDepth 20000 in
theorem ggX11_left_X11_casesNow : GoodIn wsX11_left wsX11_casesNow := goodIn_r _ [27, 11, 12, 28, 29, 30, 4, 31, 20, 32, 33, 34, 35, 36, 37, 38, 39, 48, 49, 50, 51, 52, 53, 54, 55, 56, 57, 58, 59, 60, 61, 62, 63, 64, 65, 66, 67, 68, 69, 70, 71, 72, 73, 74, 75, 76, 77, 78, 79, 80, 81, 82, 83, 84, 85, 86, 87, 88, 89, 90, 91, 92, 93, 94, 95, 96, 97, 98, 99, 100, 101, 102, 103, 104, 105] (by decide +kernel) (by decide +kernel)
set_option maxRecDepth 20000 in
theorem gX11_left_X11_casesNow : GoodIn wsX11_left (wsV RX11 385 RX11 yX11_casesNow wsX11_casesNow) := goodIn_app (goodIn_of _ (by decide +kernel)) ggX11_left_X11_casesNow
set_option maxRecDepth 20000 in
theorem ggX11_left_X11_leftOf : GoodIn wsX11_left wsX11_leftOf := goodIn_r _ [43, 11, 12, 24, 25, 26, 4, 27, 28, 29, 30, 31, 20, 32, 33, 34, 35, 36, 37, 38, 39, 44, 45, 46, 47, 10, 48, 49, 50, 51, 52, 53, 54, 55, 56, 57, 58, 59, 60, 61, 62, 63, 64, 65, 66, 67, 68, 69, 70, 71, 72, 73, 74, 75, 76, 77, 78, 79, 80, 81, 82, 83, 84, 85, 86, 87, 88, 89, 90, 91, 92, 93, 94, 95, 96, 97, 98, 99, 100, 101, 102, 103, 104, 105] (by decide +kernel) (by decide +kernel)
set_option maxRecDepth 20000 in
theorem gX11_left_X11_leftOf : GoodIn wsX11_left (wsV RX11 401 RX11 yX11_leftOf wsX11_leftOf) := goodIn_app (goodIn_of _ (by decide +kernel)) ggX11_left_X11_leftOf
theorem dX11_left_0 : decode cX11_left 0 = .ok (.aload_n 0, 1) := by decide +kernel
theorem dX11_left_1 : decode cX11_left 1 = .ok (.iload_n 1, 1) := by decide +kernel
theorem dX11_left_2 : decode cX11_left 2 = .ok (.invokevirtual 367, 3) := by decide +kernel
theorem dX11_left_5 : decode cX11_left 5 = .ok (.ifCond .ne 5, 3) := by decide +kernel
theorem dX11_left_8 : decode cX11_left 8 = .ok (.iconst (-1), 1) := by decide +kernel
theorem dX11_left_9 : decode cX11_left 9 = .ok (.ireturn, 1) := by decide +kernel
theorem dX11_left_10 : decode cX11_left 10 = .ok (.aload_n 0, 1) := by decide +kernel
theorem dX11_left_11 : decode cX11_left 11 = .ok (.invokevirtual 352, 3) := by decide +kernel
theorem dX11_left_14 : decode cX11_left 14 = .ok (.aload_n 0, 1) := by decide +kernel
theorem dX11_left_15 : decode cX11_left 15 = .ok (.invokevirtual 385, 3) := by decide +kernel
theorem dX11_left_18 : decode cX11_left 18 = .ok (.ifCond .ne 8, 3) := by decide +kernel
theorem dX11_left_26 : decode cX11_left 26 = .ok (.aload_n 0, 1) := by decide +kernel
theorem dX11_left_27 : decode cX11_left 27 = .ok (.iload_n 1, 1) := by decide +kernel
theorem dX11_left_28 : decode cX11_left 28 = .ok (.invokevirtual 401, 3) := by decide +kernel
theorem dX11_left_31 : decode cX11_left 31 = .ok (.ireturn, 1) := by decide +kernel
set_option maxRecDepth 20000 in
theorem ggX11_wisest_X11_in : GoodIn wsX11_wisest wsX11_in := goodIn_r _ [4] (by decide +kernel) (by decide +kernel)
set_option maxRecDepth 20000 in
theorem gX11_wisest_X11_in : GoodIn wsX11_wisest (va_wsS RX11 281 yX11_in wsX11_in) := goodIn_app (goodIn_of _ (by decide +kernel)) ggX11_wisest_X11_in
set_option maxRecDepth 20000 in
theorem ggX11_wisest_X11_copies : GoodIn wsX11_wisest wsX11_copies := goodIn_r _ [8, 9, 10, 11, 12, 13, 44, 45, 46, 47, 48, 49, 50, 51, 52, 53, 54, 55, 56, 57, 58, 59, 60, 61, 62, 63, 64, 65, 66, 67, 68, 69, 70, 71, 72, 73, 74, 75, 76, 77, 78, 79, 80, 81, 82, 83, 84, 85, 86, 87, 88, 89, 90, 91, 92, 93, 94, 95, 96, 97, 98, 99, 100, 101] (by decide +kernel) (by decide +kernel)
set_option maxRecDepth 20000 in
theorem gX11_wisest_X11_copies : GoodIn wsX11_wisest (wsV RX11 352 RX11 yX11_copies wsX11_copies) := goodIn_app (goodIn_of _ (by decide +kernel)) ggX11_wisest_X11_copies
set_option maxRecDepth 20000 in
theorem ggX11_wisest_X11_casesNow : GoodIn wsX11_wisest wsX11_casesNow := goodIn_r _ [17, 18, 12, 19, 20, 21, 3, 22, 9, 23, 24, 25, 26, 27, 28, 29, 30, 44, 45, 46, 47, 48, 49, 50, 51, 52, 53, 54, 55, 56, 57, 58, 59, 60, 61, 62, 63, 64, 65, 66, 67, 68, 69, 70, 71, 72, 73, 74, 75, 76, 77, 78, 79, 80, 81, 82, 83, 84, 85, 86, 87, 88, 89, 90, 91, 92, 93, 94, 95, 96, 97, 98, 99, 100, 101] (by decide +kernel) (by decide +kernel)
set_option maxRecDepth 20000 in
theorem gX11_wisest_X11_casesNow : GoodIn wsX11_wisest (wsV RX11 385 RX11 yX11_casesNow wsX11_casesNow) := goodIn_app (goodIn_of _ (by decide +kernel)) ggX11_wisest_X11_casesNow
set_option maxRecDepth 20000 in
theorem ggX11_wisest_X11_leftOf : GoodIn wsX11_wisest wsX11_leftOf := goodIn_r _ [34, 18, 12, 14, 15, 16, 3, 17, 19, 20, 21, 22, 9, 23, 24, 25, 26, 27, 28, 29, 30, 35, 36, 37, 38, 39, 44, 45, 46, 47, 48, 49, 50, 51, 52, 53, 54, 55, 56, 57, 58, 59, 60, 61, 62, 63, 64, 65, 66, 67, 68, 69, 70, 71, 72, 73, 74, 75, 76, 77, 78, 79, 80, 81, 82, 83, 84, 85, 86, 87, 88, 89, 90, 91, 92, 93, 94, 95, 96, 97, 98, 99, 100, 101] (by decide +kernel) (by decide +kernel)
set_option maxRecDepth 20000 in
theorem gX11_wisest_X11_leftOf : GoodIn wsX11_wisest (wsV RX11 401 RX11 yX11_leftOf wsX11_leftOf) := goodIn_app (goodIn_of _ (by decide +kernel)) ggX11_wisest_X11_leftOf
set_option maxRecDepth 20000 in
theorem ggX11_wisest_X11_guesses : GoodIn wsX11_wisest wsX11_guesses := goodIn_r _ [43, 39, 18, 12, 44, 45, 46, 47, 48, 49, 50, 51, 52, 53, 54, 55, 56, 57, 58, 59, 60, 61, 62, 63, 64, 65, 66, 67, 68, 69, 70, 71, 72, 73, 74, 75, 76, 77, 78, 79, 80, 81, 82, 83, 84, 85, 86, 87, 88, 89, 90, 91, 92, 93, 94, 95, 96, 97, 98, 99, 100, 101] (by decide +kernel) (by decide +kernel)
set_option maxRecDepth 20000 in
theorem gX11_wisest_X11_guesses : GoodIn wsX11_wisest (wsV RX11 285 RX11 yX11_guesses wsX11_guesses) := goodIn_app (goodIn_of _ (by decide +kernel)) ggX11_wisest_X11_guesses
theorem dX11_wisest_0 : decode cX11_wisest 0 = .ok (.iload_n 1, 1) := by decide +kernel
theorem dX11_wisest_1 : decode cX11_wisest 1 = .ok (.iconst 0, 1) := by decide +kernel
theorem dX11_wisest_2 : decode cX11_wisest 2 = .ok (.iconst 1, 1) := by decide +kernel
theorem dX11_wisest_3 : decode cX11_wisest 3 = .ok (.invokestatic 281, 3) := by decide +kernel
theorem dX11_wisest_6 : decode cX11_wisest 6 = .ok (.ifCond .ne 5, 3) := by decide +kernel
theorem dX11_wisest_9 : decode cX11_wisest 9 = .ok (.iconst (-1), 1) := by decide +kernel
theorem dX11_wisest_10 : decode cX11_wisest 10 = .ok (.ireturn, 1) := by decide +kernel
theorem dX11_wisest_11 : decode cX11_wisest 11 = .ok (.aload_n 0, 1) := by decide +kernel
theorem dX11_wisest_12 : decode cX11_wisest 12 = .ok (.invokevirtual 352, 3) := by decide +kernel
theorem dX11_wisest_15 : decode cX11_wisest 15 = .ok (.aload_n 0, 1) := by decide +kernel
theorem dX11_wisest_16 : decode cX11_wisest 16 = .ok (.invokevirtual 385, 3) := by decide +kernel
theorem dX11_wisest_19 : decode cX11_wisest 19 = .ok (.ifCond .ne 6, 3) := by decide +kernel
theorem dX11_wisest_25 : decode cX11_wisest 25 = .ok (.iconst 0, 1) := by decide +kernel
theorem dX11_wisest_26 : decode cX11_wisest 26 = .ok (.istore_n 2, 1) := by decide +kernel
theorem dX11_wisest_27 : decode cX11_wisest 27 = .ok (.aload_n 0, 1) := by decide +kernel
theorem dX11_wisest_28 : decode cX11_wisest 28 = .ok (.iconst 0, 1) := by decide +kernel
theorem dX11_wisest_29 : decode cX11_wisest 29 = .ok (.invokevirtual 401, 3) := by decide +kernel
theorem dX11_wisest_32 : decode cX11_wisest 32 = .ok (.istore_n 3, 1) := by decide +kernel
theorem dX11_wisest_33 : decode cX11_wisest 33 = .ok (.iconst 1, 1) := by decide +kernel
theorem dX11_wisest_34 : decode cX11_wisest 34 = .ok (.istore 4, 2) := by decide +kernel
theorem dX11_wisest_36 : decode cX11_wisest 36 = .ok (.iload 4, 2) := by decide +kernel
theorem dX11_wisest_38 : decode cX11_wisest 38 = .ok (.aload_n 0, 1) := by decide +kernel
theorem dX11_wisest_39 : decode cX11_wisest 39 = .ok (.invokevirtual 285, 3) := by decide +kernel
theorem dX11_wisest_42 : decode cX11_wisest 42 = .ok (.if_icmp .ge 32, 3) := by decide +kernel
theorem dX11_wisest_74 : decode cX11_wisest 74 = .ok (.iload_n 1, 1) := by decide +kernel
theorem dX11_wisest_75 : decode cX11_wisest 75 = .ok (.ifCond .ne 7, 3) := by decide +kernel
theorem dX11_wisest_78 : decode cX11_wisest 78 = .ok (.iload_n 2, 1) := by decide +kernel
theorem dX11_wisest_79 : decode cX11_wisest 79 = .ok (.goto 4, 3) := by decide +kernel
theorem dX11_wisest_82 : decode cX11_wisest 82 = .ok (.iload_n 3, 1) := by decide +kernel
theorem dX11_wisest_83 : decode cX11_wisest 83 = .ok (.ireturn, 1) := by decide +kernel
set_option maxRecDepth 20000 in
theorem ggX11_rank_X11_isGuess : GoodIn wsX11_rank wsX11_isGuess := goodIn_r _ [5, 6, 7, 8, 4, 9, 10, 11, 12, 13, 14, 15, 58, 59, 60, 61, 62, 63, 64, 65, 66, 67, 68, 69, 70, 71, 72, 73, 74, 75, 76, 77, 78, 79, 80, 81, 82, 83, 84, 85, 86, 87, 88, 89, 90, 91, 92, 93, 94, 95, 96, 97, 98, 99, 100, 101, 102, 103, 104, 105, 106, 107, 108, 109, 110, 111, 112, 113, 114, 115] (by decide +kernel) (by decide +kernel)
set_option maxRecDepth 20000 in
theorem gX11_rank_X11_isGuess : GoodIn wsX11_rank (wsV RX11 367 RX11 yX11_isGuess wsX11_isGuess) := goodIn_app (goodIn_of _ (by decide +kernel)) ggX11_rank_X11_isGuess
set_option maxRecDepth 20000 in
theorem ggX11_rank_X11_fillsChances : GoodIn wsX11_rank wsX11_fillsChances := goodIn_r _ [19, 20, 21, 22, 23, 4, 24, 25, 26, 27, 12, 28, 6, 7, 8, 9, 10, 11, 29, 30, 31, 32, 33, 34, 35, 36, 37, 38, 39, 40, 41, 42, 43, 44, 45, 46, 47, 48, 49, 58, 59, 60, 61, 62, 63, 64, 65, 66, 67, 68, 69, 70, 71, 72, 73, 74, 75, 76, 77, 78, 79, 80, 81, 82, 83, 84, 85, 86, 87, 88, 89, 90, 91, 92, 93, 94, 95, 96, 97, 98, 99, 100, 101, 102, 103, 104, 105, 106, 107, 108, 109, 110, 111, 112, 113, 114, 115] (by decide +kernel) (by decide +kernel)
set_option maxRecDepth 20000 in
theorem gX11_rank_X11_fillsChances : GoodIn wsX11_rank (wsV RX11 404 RX11 yX11_fillsChances wsX11_fillsChances) := goodIn_app (goodIn_of _ (by decide +kernel)) ggX11_rank_X11_fillsChances
set_option maxRecDepth 20000 in
theorem ggX11_rank_X11_isCase : GoodIn wsX11_rank wsX11_isCase := goodIn_r _ [53, 11, 12, 33, 34, 35, 4, 36, 10, 37, 38, 39, 40, 41, 42, 43, 44, 25, 45, 46, 47, 48, 49, 58, 59, 60, 61, 62, 63, 64, 65, 66, 67, 68, 69, 70, 71, 72, 73, 74, 75, 76, 77, 78, 79, 80, 81, 82, 83, 84, 85, 86, 87, 88, 89, 90, 91, 92, 93, 94, 95, 96, 97, 98, 99, 100, 101, 102, 103, 104, 105, 106, 107, 108, 109, 110, 111, 112, 113, 114, 115] (by decide +kernel) (by decide +kernel)
set_option maxRecDepth 20000 in
theorem gX11_rank_X11_isCase : GoodIn wsX11_rank (wsV RX11 407 RX11 yX11_isCase wsX11_isCase) := goodIn_app (goodIn_of _ (by decide +kernel)) ggX11_rank_X11_isCase
set_option maxRecDepth 20000 in
theorem ggX11_rank_X11_guesses : GoodIn wsX11_rank wsX11_guesses := goodIn_r _ [9, 10, 11, 12, 58, 59, 60, 61, 62, 63, 64, 65, 66, 67, 68, 69, 70, 71, 72, 73, 74, 75, 76, 77, 78, 79, 80, 81, 82, 83, 84, 85, 86, 87, 88, 89, 90, 91, 92, 93, 94, 95, 96, 97, 98, 99, 100, 101, 102, 103, 104, 105, 106, 107, 108, 109, 110, 111, 112, 113, 114, 115] (by decide +kernel) (by decide +kernel)
set_option maxRecDepth 20000 in
theorem gX11_rank_X11_guesses : GoodIn wsX11_rank (wsV RX11 285 RX11 yX11_guesses wsX11_guesses) := goodIn_app (goodIn_of _ (by decide +kernel)) ggX11_rank_X11_guesses
set_option maxRecDepth 20000 in
theorem ggX11_rank_X11_isAhead : GoodIn wsX11_rank wsX11_isAhead := goodIn_r _ [57, 20, 58, 59, 60, 61, 62, 63, 64, 65, 66, 67, 68, 69, 70, 71, 72, 73, 74, 75, 76, 77, 78, 79, 80, 81, 82, 83, 84, 85, 86, 87, 88, 89, 90, 91, 92, 93, 94, 95, 96, 97, 98, 99, 100, 101, 102, 103, 104, 105, 106, 107, 108, 109, 110, 111, 112, 113, 114, 115] (by decide +kernel) (by decide +kernel)
set_option maxRecDepth 20000 in
theorem gX11_rank_X11_isAhead : GoodIn wsX11_rank (wsV RX11 410 RX11 yX11_isAhead wsX11_isAhead) := goodIn_app (goodIn_of _ (by decide +kernel)) ggX11_rank_X11_isAhead
theorem dX11_rank_0 : decode cX11_rank 0 = .ok (.aload_n 0, 1) := by decide +kernel
theorem dX11_rank_1 : decode cX11_rank 1 = .ok (.iload_n 1, 1) := by decide +kernel
theorem dX11_rank_2 : decode cX11_rank 2 = .ok (.invokevirtual 367, 3) := by decide +kernel
theorem dX11_rank_5 : decode cX11_rank 5 = .ok (.ifCond .ne 5, 3) := by decide +kernel
theorem dX11_rank_8 : decode cX11_rank 8 = .ok (.iconst (-1), 1) := by decide +kernel
theorem dX11_rank_9 : decode cX11_rank 9 = .ok (.ireturn, 1) := by decide +kernel
theorem dX11_rank_10 : decode cX11_rank 10 = .ok (.aload_n 0, 1) := by decide +kernel
theorem dX11_rank_11 : decode cX11_rank 11 = .ok (.invokevirtual 404, 3) := by decide +kernel
theorem dX11_rank_14 : decode cX11_rank 14 = .ok (.aload_n 0, 1) := by decide +kernel
theorem dX11_rank_15 : decode cX11_rank 15 = .ok (.iload_n 1, 1) := by decide +kernel
theorem dX11_rank_16 : decode cX11_rank 16 = .ok (.invokevirtual 407, 3) := by decide +kernel
theorem dX11_rank_19 : decode cX11_rank 19 = .ok (.ifCond .ne 6, 3) := by decide +kernel
theorem dX11_rank_25 : decode cX11_rank 25 = .ok (.iconst 0, 1) := by decide +kernel
theorem dX11_rank_26 : decode cX11_rank 26 = .ok (.istore_n 2, 1) := by decide +kernel
theorem dX11_rank_27 : decode cX11_rank 27 = .ok (.iconst 0, 1) := by decide +kernel
theorem dX11_rank_28 : decode cX11_rank 28 = .ok (.istore_n 3, 1) := by decide +kernel
theorem dX11_rank_29 : decode cX11_rank 29 = .ok (.iload_n 3, 1) := by decide +kernel
theorem dX11_rank_30 : decode cX11_rank 30 = .ok (.aload_n 0, 1) := by decide +kernel
theorem dX11_rank_31 : decode cX11_rank 31 = .ok (.invokevirtual 285, 3) := by decide +kernel
theorem dX11_rank_34 : decode cX11_rank 34 = .ok (.if_icmp .ge 21, 3) := by decide +kernel
theorem dX11_rank_37 : decode cX11_rank 37 = .ok (.aload_n 0, 1) := by decide +kernel
theorem dX11_rank_38 : decode cX11_rank 38 = .ok (.iload_n 3, 1) := by decide +kernel
theorem dX11_rank_39 : decode cX11_rank 39 = .ok (.iload_n 1, 1) := by decide +kernel
theorem dX11_rank_40 : decode cX11_rank 40 = .ok (.invokevirtual 410, 3) := by decide +kernel
theorem dX11_rank_43 : decode cX11_rank 43 = .ok (.ifCond .eq 6, 3) := by decide +kernel
theorem dX11_rank_49 : decode cX11_rank 49 = .ok (.iinc 3 1, 3) := by decide +kernel
theorem dX11_rank_52 : decode cX11_rank 52 = .ok (.goto (-23), 3) := by decide +kernel
theorem dX11_rank_55 : decode cX11_rank 55 = .ok (.iload_n 2, 1) := by decide +kernel
theorem dX11_rank_56 : decode cX11_rank 56 = .ok (.ireturn, 1) := by decide +kernel
set_option maxRecDepth 20000 in
theorem ggX11_sunk_X11_isGuess : GoodIn wsX11_sunk wsX11_isGuess := goodIn_r _ [8, 9, 10, 11, 7, 12, 13, 3, 2, 14, 15, 16, 94, 95, 96, 97, 98, 99, 100, 101, 102, 103, 104, 105, 106, 107, 108, 109, 110, 111, 112, 113, 114, 115, 116, 117, 118, 119, 120, 121, 122, 123, 124, 125, 126, 127, 128, 129, 130, 131, 132, 133, 134, 135, 136, 137, 138, 139, 140, 141, 142, 143, 144, 145, 146, 147, 148, 149, 150, 151] (by decide +kernel) (by decide +kernel)
set_option maxRecDepth 20000 in
theorem gX11_sunk_X11_isGuess : GoodIn wsX11_sunk (wsV RX11 367 RX11 yX11_isGuess wsX11_isGuess) := goodIn_app (goodIn_of _ (by decide +kernel)) ggX11_sunk_X11_isGuess
set_option maxRecDepth 20000 in
theorem ggX11_sunk_X11_copies : GoodIn wsX11_sunk wsX11_copies := goodIn_r _ [20, 21, 22, 23, 2, 24, 94, 95, 96, 97, 98, 99, 100, 101, 102, 103, 104, 105, 106, 107, 108, 109, 110, 111, 112, 113, 114, 115, 116, 117, 118, 119, 120, 121, 122, 123, 124, 125, 126, 127, 128, 129, 130, 131, 132, 133, 134, 135, 136, 137, 138, 139, 140, 141, 142, 143, 144, 145, 146, 147, 148, 149, 150, 151] (by decide +kernel) (by decide +kernel)
set_option maxRecDepth 20000 in
theorem gX11_sunk_X11_copies : GoodIn wsX11_sunk (wsV RX11 352 RX11 yX11_copies wsX11_copies) := goodIn_app (goodIn_of _ (by decide +kernel)) ggX11_sunk_X11_copies
theorem dX11_sunk_0 : decode cX11_sunk 0 = .ok (.aload_n 0, 1) := by decide +kernel
theorem dX11_sunk_1 : decode cX11_sunk 1 = .ok (.iload_n 1, 1) := by decide +kernel
theorem dX11_sunk_2 : decode cX11_sunk 2 = .ok (.invokevirtual 367, 3) := by decide +kernel
theorem dX11_sunk_5 : decode cX11_sunk 5 = .ok (.ifCond .ne 5, 3) := by decide +kernel
theorem dX11_sunk_8 : decode cX11_sunk 8 = .ok (.iconst (-1), 1) := by decide +kernel
theorem dX11_sunk_9 : decode cX11_sunk 9 = .ok (.ireturn, 1) := by decide +kernel
theorem dX11_sunk_10 : decode cX11_sunk 10 = .ok (.aload_n 0, 1) := by decide +kernel
theorem dX11_sunk_11 : decode cX11_sunk 11 = .ok (.invokevirtual 352, 3) := by decide +kernel
theorem dX11_sunk_14 : decode cX11_sunk 14 = .ok (.iconst 0, 1) := by decide +kernel
theorem dX11_sunk_15 : decode cX11_sunk 15 = .ok (.istore_n 2, 1) := by decide +kernel
theorem dX11_sunk_16 : decode cX11_sunk 16 = .ok (.iconst 0, 1) := by decide +kernel
theorem dX11_sunk_17 : decode cX11_sunk 17 = .ok (.istore_n 3, 1) := by decide +kernel
theorem dX11_sunk_18 : decode cX11_sunk 18 = .ok (.iload_n 3, 1) := by decide +kernel
theorem dX11_sunk_19 : decode cX11_sunk 19 = .ok (.aload_n 0, 1) := by decide +kernel
theorem dX11_sunk_20 : decode cX11_sunk 20 = .ok (.getfield 49, 3) := by decide +kernel
theorem dX11_sunk_23 : decode cX11_sunk 23 = .ok (.aload_n 0, 1) := by decide +kernel
theorem dX11_sunk_24 : decode cX11_sunk 24 = .ok (.getfield 215, 3) := by decide +kernel
theorem dX11_sunk_27 : decode cX11_sunk 27 = .ok (.iaload, 1) := by decide +kernel
theorem dX11_sunk_28 : decode cX11_sunk 28 = .ok (.if_icmp .ge 41, 3) := by decide +kernel
theorem dX11_sunk_69 : decode cX11_sunk 69 = .ok (.iload_n 2, 1) := by decide +kernel
theorem dX11_sunk_70 : decode cX11_sunk 70 = .ok (.ireturn, 1) := by decide +kernel
set_option maxRecDepth 20000 in
theorem ggX11_dearest_X11_in : GoodIn wsX11_dearest wsX11_in := goodIn_r _ [6] (by decide +kernel) (by decide +kernel)
set_option maxRecDepth 20000 in
theorem gX11_dearest_X11_in : GoodIn wsX11_dearest (va_wsS RX11 281 yX11_in wsX11_in) := goodIn_app (goodIn_of _ (by decide +kernel)) ggX11_dearest_X11_in
set_option maxRecDepth 20000 in
theorem ggX11_dearest_X11_copies : GoodIn wsX11_dearest wsX11_copies := goodIn_r _ [10, 11, 12, 13, 2, 14, 48, 49, 50, 51, 52, 53, 54, 55, 56, 57, 58, 59, 60, 61, 62, 63, 64, 65, 66, 67, 68, 69, 70, 71, 72, 73, 74, 75, 76, 77, 78, 79, 80, 81, 82, 83, 84, 85, 86, 87, 88, 89, 90, 91, 92, 93, 94, 95, 96, 97, 98, 99, 100, 101, 102, 103, 104, 105] (by decide +kernel) (by decide +kernel)
set_option maxRecDepth 20000 in
theorem gX11_dearest_X11_copies : GoodIn wsX11_dearest (wsV RX11 352 RX11 yX11_copies wsX11_copies) := goodIn_app (goodIn_of _ (by decide +kernel)) ggX11_dearest_X11_copies
theorem dX11_dearest_0 : decode cX11_dearest 0 = .ok (.iload_n 1, 1) := by decide +kernel
theorem dX11_dearest_1 : decode cX11_dearest 1 = .ok (.iconst 0, 1) := by decide +kernel
theorem dX11_dearest_2 : decode cX11_dearest 2 = .ok (.iconst 1, 1) := by decide +kernel
theorem dX11_dearest_3 : decode cX11_dearest 3 = .ok (.invokestatic 281, 3) := by decide +kernel
theorem dX11_dearest_6 : decode cX11_dearest 6 = .ok (.ifCond .ne 5, 3) := by decide +kernel
theorem dX11_dearest_9 : decode cX11_dearest 9 = .ok (.iconst (-1), 1) := by decide +kernel
theorem dX11_dearest_10 : decode cX11_dearest 10 = .ok (.ireturn, 1) := by decide +kernel
theorem dX11_dearest_11 : decode cX11_dearest 11 = .ok (.aload_n 0, 1) := by decide +kernel
theorem dX11_dearest_12 : decode cX11_dearest 12 = .ok (.invokevirtual 352, 3) := by decide +kernel
theorem dX11_dearest_15 : decode cX11_dearest 15 = .ok (.bipush (-2), 2) := by decide +kernel
theorem dX11_dearest_17 : decode cX11_dearest 17 = .ok (.istore_n 2, 1) := by decide +kernel
theorem dX11_dearest_18 : decode cX11_dearest 18 = .ok (.iconst 0, 1) := by decide +kernel
theorem dX11_dearest_19 : decode cX11_dearest 19 = .ok (.istore_n 3, 1) := by decide +kernel
theorem dX11_dearest_20 : decode cX11_dearest 20 = .ok (.iload_n 3, 1) := by decide +kernel
theorem dX11_dearest_21 : decode cX11_dearest 21 = .ok (.aload_n 0, 1) := by decide +kernel
theorem dX11_dearest_22 : decode cX11_dearest 22 = .ok (.getfield 49, 3) := by decide +kernel
theorem dX11_dearest_25 : decode cX11_dearest 25 = .ok (.aload_n 0, 1) := by decide +kernel
theorem dX11_dearest_26 : decode cX11_dearest 26 = .ok (.getfield 215, 3) := by decide +kernel
theorem dX11_dearest_29 : decode cX11_dearest 29 = .ok (.iaload, 1) := by decide +kernel
theorem dX11_dearest_30 : decode cX11_dearest 30 = .ok (.if_icmp .ge 28, 3) := by decide +kernel
theorem dX11_dearest_58 : decode cX11_dearest 58 = .ok (.iload_n 2, 1) := by decide +kernel
theorem dX11_dearest_59 : decode cX11_dearest 59 = .ok (.ifCond .lt 7, 3) := by decide +kernel
theorem dX11_dearest_66 : decode cX11_dearest 66 = .ok (.iload_n 2, 1) := by decide +kernel
theorem dX11_dearest_67 : decode cX11_dearest 67 = .ok (.goto 8, 3) := by decide +kernel
theorem dX11_dearest_75 : decode cX11_dearest 75 = .ok (.ireturn, 1) := by decide +kernel
set_option maxRecDepth 20000 in
theorem ggX11_allGo_X11_in : GoodIn wsX11_allGo wsX11_in := goodIn_r _ [9] (by decide +kernel) (by decide +kernel)
set_option maxRecDepth 20000 in
theorem gX11_allGo_X11_in : GoodIn wsX11_allGo (va_wsS RX11 281 yX11_in wsX11_in) := goodIn_app (goodIn_of _ (by decide +kernel)) ggX11_allGo_X11_in
set_option maxRecDepth 20000 in
theorem ggX11_allGo_X11_copies : GoodIn wsX11_allGo wsX11_copies := goodIn_r _ [13, 4, 5, 14, 2, 15, 126, 127, 128, 129, 130, 131, 132, 133, 134, 135, 136, 137, 138, 139, 140, 141, 142, 143, 144, 145, 146, 147, 148, 149, 150, 151, 152, 153, 154, 155, 156, 157, 158, 159, 160, 161, 162, 163, 164, 165, 166, 167, 168, 169, 170, 171, 172, 173, 174, 175, 176, 177, 178, 179, 180, 181, 182, 183] (by decide +kernel) (by decide +kernel)
set_option maxRecDepth 20000 in
theorem gX11_allGo_X11_copies : GoodIn wsX11_allGo (wsV RX11 352 RX11 yX11_copies wsX11_copies) := goodIn_app (goodIn_of _ (by decide +kernel)) ggX11_allGo_X11_copies
set_option maxRecDepth 20000 in
theorem ggX11_allGo_X11_thereNumber : GoodIn wsX11_allGo wsX11_thereNumber := goodIn_r _ [19, 3, 2, 20, 21, 22, 23, 8, 24, 4, 25, 26, 27, 28, 29, 30, 31, 32, 33, 15, 34, 35, 36, 37, 126, 127, 128, 129, 130, 131, 132, 133, 134, 135, 136, 137, 138, 139, 140, 141, 142, 143, 144, 145, 146, 147, 148, 149, 150, 151, 152, 153, 154, 155, 156, 157, 158, 159, 160, 161, 162, 163, 164, 165, 166, 167, 168, 169, 170, 171, 172, 173, 174, 175, 176, 177, 178, 179, 180, 181, 182, 183] (by decide +kernel) (by decide +kernel)
set_option maxRecDepth 20000 in
theorem gX11_allGo_X11_thereNumber : GoodIn wsX11_allGo (wsV RX11 370 RX11 yX11_thereNumber wsX11_thereNumber) := goodIn_app (goodIn_of _ (by decide +kernel)) ggX11_allGo_X11_thereNumber
set_option maxRecDepth 20000 in
theorem ggX11_allGo_X11_manyIn : GoodIn wsX11_allGo wsX11_manyIn := goodIn_r _ [125, 1, 2, 4, 126, 127, 128, 129, 130, 131, 132, 133, 134, 135, 136, 137, 138, 139, 140, 141, 142, 143, 144, 145, 146, 147, 148, 149, 150, 151, 152, 153, 154, 155, 156, 157, 158, 159, 160, 161, 162, 163, 164, 165, 166, 167, 168, 169, 170, 171, 172, 173, 174, 175, 176, 177, 178, 179, 180, 181, 182, 183] (by decide +kernel) (by decide +kernel)
set_option maxRecDepth 20000 in
theorem gX11_allGo_X11_manyIn : GoodIn wsX11_allGo (wsV RX11 416 RX11 yX11_manyIn wsX11_manyIn) := goodIn_app (goodIn_of _ (by decide +kernel)) ggX11_allGo_X11_manyIn
theorem dX11_allGo_0 : decode cX11_allGo 0 = .ok (.iload_n 1, 1) := by decide +kernel
theorem dX11_allGo_1 : decode cX11_allGo 1 = .ok (.iconst 0, 1) := by decide +kernel
theorem dX11_allGo_2 : decode cX11_allGo 2 = .ok (.iconst 2, 1) := by decide +kernel
theorem dX11_allGo_3 : decode cX11_allGo 3 = .ok (.invokestatic 281, 3) := by decide +kernel
theorem dX11_allGo_6 : decode cX11_allGo 6 = .ok (.ifCond .ne 5, 3) := by decide +kernel
theorem dX11_allGo_9 : decode cX11_allGo 9 = .ok (.iconst (-1), 1) := by decide +kernel
theorem dX11_allGo_10 : decode cX11_allGo 10 = .ok (.ireturn, 1) := by decide +kernel
theorem dX11_allGo_11 : decode cX11_allGo 11 = .ok (.aload_n 0, 1) := by decide +kernel
theorem dX11_allGo_12 : decode cX11_allGo 12 = .ok (.invokevirtual 352, 3) := by decide +kernel
theorem dX11_allGo_15 : decode cX11_allGo 15 = .ok (.aload_n 0, 1) := by decide +kernel
theorem dX11_allGo_16 : decode cX11_allGo 16 = .ok (.invokevirtual 370, 3) := by decide +kernel
theorem dX11_allGo_19 : decode cX11_allGo 19 = .ok (.istore_n 2, 1) := by decide +kernel
theorem dX11_allGo_20 : decode cX11_allGo 20 = .ok (.iconst 0, 1) := by decide +kernel
theorem dX11_allGo_21 : decode cX11_allGo 21 = .ok (.istore_n 3, 1) := by decide +kernel
theorem dX11_allGo_22 : decode cX11_allGo 22 = .ok (.iload_n 3, 1) := by decide +kernel
theorem dX11_allGo_23 : decode cX11_allGo 23 = .ok (.aload_n 0, 1) := by decide +kernel
theorem dX11_allGo_24 : decode cX11_allGo 24 = .ok (.getfield 49, 3) := by decide +kernel
theorem dX11_allGo_27 : decode cX11_allGo 27 = .ok (.aload_n 0, 1) := by decide +kernel
theorem dX11_allGo_28 : decode cX11_allGo 28 = .ok (.getfield 215, 3) := by decide +kernel
theorem dX11_allGo_31 : decode cX11_allGo 31 = .ok (.iaload, 1) := by decide +kernel
theorem dX11_allGo_32 : decode cX11_allGo 32 = .ok (.if_icmp .ge 63, 3) := by decide +kernel
theorem dX11_allGo_95 : decode cX11_allGo 95 = .ok (.iload_n 1, 1) := by decide +kernel
theorem dX11_allGo_96 : decode cX11_allGo 96 = .ok (.ifCond .ne 11, 3) := by decide +kernel
theorem dX11_allGo_99 : decode cX11_allGo 99 = .ok (.aload_n 0, 1) := by decide +kernel
theorem dX11_allGo_100 : decode cX11_allGo 100 = .ok (.iconst 2, 1) := by decide +kernel
theorem dX11_allGo_101 : decode cX11_allGo 101 = .ok (.invokevirtual 416, 3) := by decide +kernel
theorem dX11_allGo_104 : decode cX11_allGo 104 = .ok (.goto 31, 3) := by decide +kernel
theorem dX11_allGo_107 : decode cX11_allGo 107 = .ok (.iload_n 1, 1) := by decide +kernel
theorem dX11_allGo_108 : decode cX11_allGo 108 = .ok (.iconst 1, 1) := by decide +kernel
theorem dX11_allGo_109 : decode cX11_allGo 109 = .ok (.if_icmp .ne 11, 3) := by decide +kernel
theorem dX11_allGo_112 : decode cX11_allGo 112 = .ok (.aload_n 0, 1) := by decide +kernel
theorem dX11_allGo_113 : decode cX11_allGo 113 = .ok (.iconst 1, 1) := by decide +kernel
theorem dX11_allGo_114 : decode cX11_allGo 114 = .ok (.invokevirtual 416, 3) := by decide +kernel
theorem dX11_allGo_117 : decode cX11_allGo 117 = .ok (.goto 18, 3) := by decide +kernel
theorem dX11_allGo_120 : decode cX11_allGo 120 = .ok (.aload_n 0, 1) := by decide +kernel
theorem dX11_allGo_121 : decode cX11_allGo 121 = .ok (.getfield 101, 3) := by decide +kernel
theorem dX11_allGo_124 : decode cX11_allGo 124 = .ok (.bipush 28, 2) := by decide +kernel
theorem dX11_allGo_126 : decode cX11_allGo 126 = .ok (.iaload, 1) := by decide +kernel
theorem dX11_allGo_127 : decode cX11_allGo 127 = .ok (.aload_n 0, 1) := by decide +kernel
theorem dX11_allGo_128 : decode cX11_allGo 128 = .ok (.getfield 98, 3) := by decide +kernel
theorem dX11_allGo_131 : decode cX11_allGo 131 = .ok (.bipush 28, 2) := by decide +kernel
theorem dX11_allGo_133 : decode cX11_allGo 133 = .ok (.iaload, 1) := by decide +kernel
theorem dX11_allGo_134 : decode cX11_allGo 134 = .ok (.isub, 1) := by decide +kernel
theorem dX11_allGo_135 : decode cX11_allGo 135 = .ok (.ireturn, 1) := by decide +kernel
set_option maxHeartbeats 4000000 in
set_option maxRecDepth 100000 in
theorem c_enough (l : Launch) (dC : Nat → ClassId) (dI : Nat → Nat → Nat) (cB cI cJ cZ cS : ClassId) (h : Nat) (a : Nat → Nat) (v : Nat → Int32) (f : Nat → Nat → Int32) (g : Nat → Nat → Int64) (hv18 : v 18 = 0) (hf26_0 : f 26 0 = 0) (hv45 : v 45 = 0) (hf20_0 : f 20 0 = 0) (hrow : ∀ j, j < 29 → f 44 j = f 43 j) : CI l yX11_enough wsX11_enough ({ frames := 1, cells := 0, slots := 0, locals := 22 }) (dC, dI) (tysA cB cI cJ cZ cS) (mw cB cI cJ cZ h a v f g) [.ref h] (fun r _ => r = 1) := by
  refine open_I (cc := cX11_enough) (maxL := 3) (ret := (some .int)) (by decide) rfl (Nat.le_of_ble_eq_true rfl) ?_
  intro p e s m below meth c A ls E
  obtain ⟨C, hr, hlocks, hnm, hA, hP, hK, hD, hN, hl⟩ := E
  obtain ⟨hx, hb, hml, hown, hts⟩ := id C
  have hS : va_S A s.heap s.heap [] := va_S.rf
  have hl : lv_has ls 3 [(0, .ref h)] := hl
  have inX11 : ∀ w ∈ u_ws RX11 TX11 58, w ∈ wsX11_enough := by decide +kernel
  have L215 : Cond.fieldLink RX11 215 "GuessFerryModel" "live" "I" ∈ wsX11_enough := by decide +kernel
  have L40 : Cond.fieldLink RX11 40 "GuessFerryModel" "waves" "[I" ∈ wsX11_enough := by decide +kernel
  refine lv_aload_n hx hb dX11_enough_0 rfl (lv_at hl 0 rfl) ?_
  refine q_govF (va_runV (As := []) (rest := []) C (c_copies l dC dI cB cI cJ cZ cS h a v f g hv18 hf26_0 hv45 (hrow) _) (cwV 0 hts gX11_enough_X11_copies rfl rfl rfl (by decide +kernel) ⟨Nat.le_of_ble_eq_true rfl, Nat.le_of_ble_eq_true rfl⟩) (q_preV hK hP (ci := 11) (q0 := 0) rfl rfl rfl (q_preF hN hK hP hD)) rfl rfl hl.1 rfl (lv_room (Nat.le_of_ble_eq_true rfl)) dX11_enough_1 ⟨Nat.le_of_ble_eq_true rfl, Nat.le_of_ble_eq_true rfl⟩) hD hS hA (fun w1 H locs hw hP hD hS => ?_)
  obtain rfl := hw
  refine lv_aload_n hx hb dX11_enough_4 rfl (lv_at hl 0 rfl) ?_
  refine q_goiF (va_runV (As := []) (rest := []) C (c_casesNow l dC dI cB cI cJ cZ cS h a v f g hv18 hf20_0 _) (cwV 0 hts gX11_enough_X11_casesNow rfl rfl rfl (by decide +kernel) ⟨Nat.le_of_ble_eq_true rfl, Nat.le_of_ble_eq_true rfl⟩) (q_preV hK hP (ci := 11) (q0 := 0) rfl rfl rfl (q_preF hN hK hP hD)) rfl rfl hl.1 rfl (lv_room (Nat.le_of_ble_eq_true rfl)) dX11_enough_5 ⟨Nat.le_of_ble_eq_true rfl, Nat.le_of_ble_eq_true rfl⟩) hD hS hA (fun r w1 H locs hw hP hD hS => ?_)
  obtain ⟨rfl, rfl⟩ := hw
  refine lv_if_ne (tgt := 14) hx hb dX11_enough_8 (by decide) (fun _ => ?_) (fun h => absurd h (by decide +kernel))
  refine lv_iconst (v := 1) hx hb dX11_enough_14 (by decide) ?_
  refine lv_istore_n (lv' := [(1, .int 1), (0, .ref h)]) hx hb dX11_enough_15 rfl hl (by decide) rfl (fun ls hl => ?_)
  refine lv_iconst (v := 0) hx hb dX11_enough_16 (by decide) ?_
  refine lv_istore_n (lv' := [(2, .int 0), (1, .int 1), (0, .ref h)]) hx hb dX11_enough_17 rfl hl (by decide) rfl (fun ls hl => ?_)
  refine lv_iload_n hx hb dX11_enough_18 rfl (lv_at hl 0 rfl) ?_
  refine lv_aload_n hx hb dX11_enough_19 rfl (lv_at hl 2 rfl) ?_
  refine q_get (v := .ref (a 20)) C inX11 hK hP 0 rfl rfl 20 (by decide) rfl L40 rfl dX11_enough_20 ?_
  refine lv_aload_n hx hb dX11_enough_23 rfl (lv_at hl 2 rfl) ?_
  refine q_get (v := .int (v 18)) C inX11 hK hP 0 rfl rfl 18 (by decide) rfl L215 rfl dX11_enough_24 ?_
  refine q_top (y := 0) (hv18) ?_
  refine q_iald (x := 0) C hK hP 8 1 rfl rfl (vp_lit (by decide +kernel)) dX11_enough_27 (hf20_0) ?_
  refine lv_icmp_ge (tgt := 50) hx hb dX11_enough_28 (by decide) (fun _ => ?_) (fun h => absurd (by decide +kernel) h)
  refine lv_iload_n hx hb dX11_enough_50 rfl (lv_at hl 1 rfl) ?_
  exact q_iret C hr hlocks hK hP hD hS (Nat.le_of_ble_eq_true rfl) (Nat.le_of_ble_eq_true rfl) dX11_enough_51 (rfl)

set_option maxHeartbeats 4000000 in
set_option maxRecDepth 100000 in
theorem c_chance (l : Launch) (dC : Nat → ClassId) (dI : Nat → Nat → Nat) (cB cI cJ cZ cS : ClassId) (h : Nat) (a : Nat → Nat) (v : Nat → Int32) (f : Nat → Nat → Int32) (g : Nat → Nat → Int64) (hv18 : v 18 = 0) (hf26_0 : f 26 0 = 0) (hv45 : v 45 = 0) (hf20_0 : f 20 0 = 0) (hf46_0 : f 46 0 = 1) (x1 : Int32) (hrow : ∀ j, j < 29 → f 44 j = f 43 j) : CI l yX11_chance wsX11_chance ({ frames := 2, cells := 0, slots := 0, locals := 43 }) (dC, dI) (tysA cB cI cJ cZ cS) (mw cB cI cJ cZ h a v f g) [.ref h, .int x1] (fun r _ => r = (fr_one 1 x1)) := by
  refine open_I (cc := cX11_chance) (maxL := 2) (ret := (some .int)) (by decide) rfl (Nat.le_of_ble_eq_true rfl) ?_
  intro p e s m below meth c A ls E
  obtain ⟨C, hr, hlocks, hnm, hA, hP, hK, hD, hN, hl⟩ := E
  obtain ⟨hx, hb, hml, hown, hts⟩ := id C
  have hS : va_S A s.heap s.heap [] := va_S.rf
  have hl : lv_has ls 2 [(0, .ref h), (1, .int x1)] := hl
  refine lv_aload_n hx hb dX11_chance_0 rfl (lv_at hl 0 rfl) ?_
  refine lv_iload_n hx hb dX11_chance_1 rfl (lv_at hl 1 rfl) ?_
  refine q_goiF (va_runV (As := [.int x1]) (rest := []) C (c_isGuess l dC dI cB cI cJ cZ cS h a v f g hv18 hf20_0 hf46_0 x1 _) (cwV 1 hts gX11_chance_X11_isGuess rfl rfl rfl (by decide +kernel) ⟨Nat.le_of_ble_eq_true rfl, Nat.le_of_ble_eq_true rfl⟩) (q_preV hK hP (ci := 11) (q0 := 0) rfl rfl rfl (q_preF hN hK hP hD)) rfl rfl hl.1 rfl (lv_room (Nat.le_of_ble_eq_true rfl)) dX11_chance_2 ⟨Nat.le_of_ble_eq_true rfl, Nat.le_of_ble_eq_true rfl⟩) hD hS hA (fun r w1 H locs hw hP hD hS => ?_)
  obtain ⟨rfl, rfl⟩ := hw
  refine lv_if_ne (tgt := 10) hx hb dX11_chance_5 (by decide) (fun c1 => ?_) (fun c1 => ?_)
  · skip
    obtain rfl : x1 = 0 := sp_in_00 c1
    refine lv_aload_n hx hb dX11_chance_10 rfl (lv_at hl 0 rfl) ?_
    refine q_govF (va_runV (As := []) (rest := []) C (c_copies l dC dI cB cI cJ cZ cS h a v f g hv18 hf26_0 hv45 (hrow) _) (cwV 0 hts gX11_chance_X11_copies rfl rfl rfl (by decide +kernel) ⟨Nat.le_of_ble_eq_true rfl, Nat.le_of_ble_eq_true rfl⟩) (q_preV hK hP (ci := 11) (q0 := 0) rfl rfl rfl (q_preF hN hK hP hD)) rfl rfl hl.1 rfl (lv_room (Nat.le_of_ble_eq_true rfl)) dX11_chance_11 ⟨Nat.le_of_ble_eq_true rfl, Nat.le_of_ble_eq_true rfl⟩) hD hS hA (fun w1 H locs hw hP hD hS => ?_)
    obtain rfl := hw
    refine lv_aload_n hx hb dX11_chance_14 rfl (lv_at hl 0 rfl) ?_
    refine lv_iload_n hx hb dX11_chance_15 rfl (lv_at hl 1 rfl) ?_
    refine q_goiF (va_runV (As := [.int 0]) (rest := []) C (c_chanceOf l dC dI cB cI cJ cZ cS h a v f g hv18 hf20_0 0 _) (cwV 1 hts gX11_chance_X11_chanceOf rfl rfl rfl (by decide +kernel) ⟨Nat.le_of_ble_eq_true rfl, Nat.le_of_ble_eq_true rfl⟩) (q_preV hK hP (ci := 11) (q0 := 0) rfl rfl rfl (q_preF hN hK hP hD)) rfl rfl hl.1 rfl (lv_room (Nat.le_of_ble_eq_true rfl)) dX11_chance_16 ⟨Nat.le_of_ble_eq_true rfl, Nat.le_of_ble_eq_true rfl⟩) hD hS hA (fun r w1 H locs hw hP hD hS => ?_)
    obtain ⟨rfl, rfl⟩ := hw
    exact q_iret C hr hlocks hK hP hD hS (Nat.le_of_ble_eq_true rfl) (Nat.le_of_ble_eq_true rfl) dX11_chance_19 (by decide +kernel)
  · skip
    refine lv_iconst (v := (-1)) hx hb dX11_chance_8 (by decide) ?_
    exact q_iret C hr hlocks hK hP hD hS (Nat.le_of_ble_eq_true rfl) (Nat.le_of_ble_eq_true rfl) dX11_chance_9 (by unfold fr_one; rw [if_pos c1])

set_option maxHeartbeats 4000000 in
set_option maxRecDepth 100000 in
theorem c_left (l : Launch) (dC : Nat → ClassId) (dI : Nat → Nat → Nat) (cB cI cJ cZ cS : ClassId) (h : Nat) (a : Nat → Nat) (v : Nat → Int32) (f : Nat → Nat → Int32) (g : Nat → Nat → Int64) (hv18 : v 18 = 0) (hf26_0 : f 26 0 = 0) (hv45 : v 45 = 0) (hf20_0 : f 20 0 = 0) (hf46_0 : f 46 0 = 1) (x1 : Int32) (hrow : ∀ j, j < 29 → f 44 j = f 43 j) : CI l yX11_left wsX11_left ({ frames := 2, cells := 0, slots := 0, locals := 48 }) (dC, dI) (tysA cB cI cJ cZ cS) (mw cB cI cJ cZ h a v f g) [.ref h, .int x1] (fun r _ => r = (fr_one 1 x1)) := by
  refine open_I (cc := cX11_left) (maxL := 2) (ret := (some .int)) (by decide) rfl (Nat.le_of_ble_eq_true rfl) ?_
  intro p e s m below meth c A ls E
  obtain ⟨C, hr, hlocks, hnm, hA, hP, hK, hD, hN, hl⟩ := E
  obtain ⟨hx, hb, hml, hown, hts⟩ := id C
  have hS : va_S A s.heap s.heap [] := va_S.rf
  have hl : lv_has ls 2 [(0, .ref h), (1, .int x1)] := hl
  refine lv_aload_n hx hb dX11_left_0 rfl (lv_at hl 0 rfl) ?_
  refine lv_iload_n hx hb dX11_left_1 rfl (lv_at hl 1 rfl) ?_
  refine q_goiF (va_runV (As := [.int x1]) (rest := []) C (c_isGuess l dC dI cB cI cJ cZ cS h a v f g hv18 hf20_0 hf46_0 x1 _) (cwV 1 hts gX11_left_X11_isGuess rfl rfl rfl (by decide +kernel) ⟨Nat.le_of_ble_eq_true rfl, Nat.le_of_ble_eq_true rfl⟩) (q_preV hK hP (ci := 11) (q0 := 0) rfl rfl rfl (q_preF hN hK hP hD)) rfl rfl hl.1 rfl (lv_room (Nat.le_of_ble_eq_true rfl)) dX11_left_2 ⟨Nat.le_of_ble_eq_true rfl, Nat.le_of_ble_eq_true rfl⟩) hD hS hA (fun r w1 H locs hw hP hD hS => ?_)
  obtain ⟨rfl, rfl⟩ := hw
  refine lv_if_ne (tgt := 10) hx hb dX11_left_5 (by decide) (fun c1 => ?_) (fun c1 => ?_)
  · skip
    obtain rfl : x1 = 0 := sp_in_00 c1
    refine lv_aload_n hx hb dX11_left_10 rfl (lv_at hl 0 rfl) ?_
    refine q_govF (va_runV (As := []) (rest := []) C (c_copies l dC dI cB cI cJ cZ cS h a v f g hv18 hf26_0 hv45 (hrow) _) (cwV 0 hts gX11_left_X11_copies rfl rfl rfl (by decide +kernel) ⟨Nat.le_of_ble_eq_true rfl, Nat.le_of_ble_eq_true rfl⟩) (q_preV hK hP (ci := 11) (q0 := 0) rfl rfl rfl (q_preF hN hK hP hD)) rfl rfl hl.1 rfl (lv_room (Nat.le_of_ble_eq_true rfl)) dX11_left_11 ⟨Nat.le_of_ble_eq_true rfl, Nat.le_of_ble_eq_true rfl⟩) hD hS hA (fun w1 H locs hw hP hD hS => ?_)
    obtain rfl := hw
    refine lv_aload_n hx hb dX11_left_14 rfl (lv_at hl 0 rfl) ?_
    refine q_goiF (va_runV (As := []) (rest := []) C (c_casesNow l dC dI cB cI cJ cZ cS h a v f g hv18 hf20_0 _) (cwV 0 hts gX11_left_X11_casesNow rfl rfl rfl (by decide +kernel) ⟨Nat.le_of_ble_eq_true rfl, Nat.le_of_ble_eq_true rfl⟩) (q_preV hK hP (ci := 11) (q0 := 0) rfl rfl rfl (q_preF hN hK hP hD)) rfl rfl hl.1 rfl (lv_room (Nat.le_of_ble_eq_true rfl)) dX11_left_15 ⟨Nat.le_of_ble_eq_true rfl, Nat.le_of_ble_eq_true rfl⟩) hD hS hA (fun r w1 H locs hw hP hD hS => ?_)
    obtain ⟨rfl, rfl⟩ := hw
    refine lv_if_ne (tgt := 26) hx hb dX11_left_18 (by decide) (fun _ => ?_) (fun h => absurd h (by decide +kernel))
    refine lv_aload_n hx hb dX11_left_26 rfl (lv_at hl 0 rfl) ?_
    refine lv_iload_n hx hb dX11_left_27 rfl (lv_at hl 1 rfl) ?_
    refine q_goiF (va_runV (As := [.int 0]) (rest := []) C (c_leftOf l dC dI cB cI cJ cZ cS h a v f g hv18 hf20_0 0 _) (cwV 1 hts gX11_left_X11_leftOf rfl rfl rfl (by decide +kernel) ⟨Nat.le_of_ble_eq_true rfl, Nat.le_of_ble_eq_true rfl⟩) (q_preV hK hP (ci := 11) (q0 := 0) rfl rfl rfl (q_preF hN hK hP hD)) rfl rfl hl.1 rfl (lv_room (Nat.le_of_ble_eq_true rfl)) dX11_left_28 ⟨Nat.le_of_ble_eq_true rfl, Nat.le_of_ble_eq_true rfl⟩) hD hS hA (fun r w1 H locs hw hP hD hS => ?_)
    obtain ⟨rfl, rfl⟩ := hw
    exact q_iret C hr hlocks hK hP hD hS (Nat.le_of_ble_eq_true rfl) (Nat.le_of_ble_eq_true rfl) dX11_left_31 (by decide +kernel)
  · skip
    refine lv_iconst (v := (-1)) hx hb dX11_left_8 (by decide) ?_
    exact q_iret C hr hlocks hK hP hD hS (Nat.le_of_ble_eq_true rfl) (Nat.le_of_ble_eq_true rfl) dX11_left_9 (by unfold fr_one; rw [if_pos c1])

set_option maxHeartbeats 4000000 in
set_option maxRecDepth 100000 in
theorem c_sunk (l : Launch) (dC : Nat → ClassId) (dI : Nat → Nat → Nat) (cB cI cJ cZ cS : ClassId) (h : Nat) (a : Nat → Nat) (v : Nat → Int32) (f : Nat → Nat → Int32) (g : Nat → Nat → Int64) (hv18 : v 18 = 0) (hf26_0 : f 26 0 = 0) (hv45 : v 45 = 0) (hf20_0 : f 20 0 = 0) (hf46_0 : f 46 0 = 1) (hf23_0 : f 23 0 = 0) (x1 : Int32) (hrow : ∀ j, j < 29 → f 44 j = f 43 j) : CI l yX11_sunk wsX11_sunk ({ frames := 2, cells := 0, slots := 0, locals := 43 }) (dC, dI) (tysA cB cI cJ cZ cS) (mw cB cI cJ cZ h a v f g) [.ref h, .int x1] (fun r _ => r = (fr_one 0 x1)) := by
  refine open_I (cc := cX11_sunk) (maxL := 4) (ret := (some .int)) (by decide) rfl (Nat.le_of_ble_eq_true rfl) ?_
  intro p e s m below meth c A ls E
  obtain ⟨C, hr, hlocks, hnm, hA, hP, hK, hD, hN, hl⟩ := E
  obtain ⟨hx, hb, hml, hown, hts⟩ := id C
  have hS : va_S A s.heap s.heap [] := va_S.rf
  have hl : lv_has ls 4 [(0, .ref h), (1, .int x1)] := hl
  have inX11 : ∀ w ∈ u_ws RX11 TX11 58, w ∈ wsX11_sunk := by decide +kernel
  have L215 : Cond.fieldLink RX11 215 "GuessFerryModel" "live" "I" ∈ wsX11_sunk := by decide +kernel
  have L49 : Cond.fieldLink RX11 49 "GuessFerryModel" "parties" "[I" ∈ wsX11_sunk := by decide +kernel
  refine lv_aload_n hx hb dX11_sunk_0 rfl (lv_at hl 0 rfl) ?_
  refine lv_iload_n hx hb dX11_sunk_1 rfl (lv_at hl 1 rfl) ?_
  refine q_goiF (va_runV (As := [.int x1]) (rest := []) C (c_isGuess l dC dI cB cI cJ cZ cS h a v f g hv18 hf20_0 hf46_0 x1 _) (cwV 1 hts gX11_sunk_X11_isGuess rfl rfl rfl (by decide +kernel) ⟨Nat.le_of_ble_eq_true rfl, Nat.le_of_ble_eq_true rfl⟩) (q_preV hK hP (ci := 11) (q0 := 0) rfl rfl rfl (q_preF hN hK hP hD)) rfl rfl hl.1 rfl (lv_room (Nat.le_of_ble_eq_true rfl)) dX11_sunk_2 ⟨Nat.le_of_ble_eq_true rfl, Nat.le_of_ble_eq_true rfl⟩) hD hS hA (fun r w1 H locs hw hP hD hS => ?_)
  obtain ⟨rfl, rfl⟩ := hw
  refine lv_if_ne (tgt := 10) hx hb dX11_sunk_5 (by decide) (fun c1 => ?_) (fun c1 => ?_)
  · skip
    obtain rfl : x1 = 0 := sp_in_00 c1
    refine lv_aload_n hx hb dX11_sunk_10 rfl (lv_at hl 0 rfl) ?_
    refine q_govF (va_runV (As := []) (rest := []) C (c_copies l dC dI cB cI cJ cZ cS h a v f g hv18 hf26_0 hv45 (hrow) _) (cwV 0 hts gX11_sunk_X11_copies rfl rfl rfl (by decide +kernel) ⟨Nat.le_of_ble_eq_true rfl, Nat.le_of_ble_eq_true rfl⟩) (q_preV hK hP (ci := 11) (q0 := 0) rfl rfl rfl (q_preF hN hK hP hD)) rfl rfl hl.1 rfl (lv_room (Nat.le_of_ble_eq_true rfl)) dX11_sunk_11 ⟨Nat.le_of_ble_eq_true rfl, Nat.le_of_ble_eq_true rfl⟩) hD hS hA (fun w1 H locs hw hP hD hS => ?_)
    obtain rfl := hw
    refine lv_iconst (v := 0) hx hb dX11_sunk_14 (by decide) ?_
    refine lv_istore_n (lv' := [(2, .int 0), (0, .ref h), (1, .int 0)]) hx hb dX11_sunk_15 rfl hl (by decide) rfl (fun ls hl => ?_)
    refine lv_iconst (v := 0) hx hb dX11_sunk_16 (by decide) ?_
    refine lv_istore_n (lv' := [(3, .int 0), (2, .int 0), (0, .ref h), (1, .int 0)]) hx hb dX11_sunk_17 rfl hl (by decide) rfl (fun ls hl => ?_)
    refine lv_iload_n hx hb dX11_sunk_18 rfl (lv_at hl 0 rfl) ?_
    refine lv_aload_n hx hb dX11_sunk_19 rfl (lv_at hl 2 rfl) ?_
    refine q_get (v := .ref (a 23)) C inX11 hK hP 0 rfl rfl 23 (by decide) rfl L49 rfl dX11_sunk_20 ?_
    refine lv_aload_n hx hb dX11_sunk_23 rfl (lv_at hl 2 rfl) ?_
    refine q_get (v := .int (v 18)) C inX11 hK hP 0 rfl rfl 18 (by decide) rfl L215 rfl dX11_sunk_24 ?_
    refine q_top (y := 0) (hv18) ?_
    refine q_iald (x := 0) C hK hP 11 1 rfl rfl (vp_lit (by decide +kernel)) dX11_sunk_27 (hf23_0) ?_
    refine lv_icmp_ge (tgt := 69) hx hb dX11_sunk_28 (by decide) (fun _ => ?_) (fun h => absurd (by decide +kernel) h)
    refine lv_iload_n hx hb dX11_sunk_69 rfl (lv_at hl 1 rfl) ?_
    exact q_iret C hr hlocks hK hP hD hS (Nat.le_of_ble_eq_true rfl) (Nat.le_of_ble_eq_true rfl) dX11_sunk_70 (by decide +kernel)
  · skip
    refine lv_iconst (v := (-1)) hx hb dX11_sunk_8 (by decide) ?_
    exact q_iret C hr hlocks hK hP hD hS (Nat.le_of_ble_eq_true rfl) (Nat.le_of_ble_eq_true rfl) dX11_sunk_9 (by unfold fr_one; rw [if_pos c1])

set_option maxHeartbeats 4000000 in
set_option maxRecDepth 100000 in
theorem c_rank (l : Launch) (dC : Nat → ClassId) (dI : Nat → Nat → Nat) (cB cI cJ cZ cS : ClassId) (h : Nat) (a : Nat → Nat) (v : Nat → Int32) (f : Nat → Nat → Int32) (g : Nat → Nat → Int64) (hv18 : v 18 = 0) (hf26_0 : f 26 0 = 0) (hv45 : v 45 = 0) (hf20_0 : f 20 0 = 0) (hf46_0 : f 46 0 = 1) (x1 : Int32) (hrow : ∀ j, j < 29 → f 44 j = f 43 j) : CI l yX11_rank wsX11_rank ({ frames := 2, cells := 0, slots := 0, locals := 45 }) (dC, dI) (tysA cB cI cJ cZ cS) (mw cB cI cJ cZ h a v f g) [.ref h, .int x1] (fun r _ => r = (fr_one 0 x1)) := by
  refine open_I (cc := cX11_rank) (maxL := 4) (ret := (some .int)) (by decide) rfl (Nat.le_of_ble_eq_true rfl) ?_
  intro p e s m below meth c A ls E
  obtain ⟨C, hr, hlocks, hnm, hA, hP, hK, hD, hN, hl⟩ := E
  obtain ⟨hx, hb, hml, hown, hts⟩ := id C
  have hS : va_S A s.heap s.heap [] := va_S.rf
  have hl : lv_has ls 4 [(0, .ref h), (1, .int x1)] := hl
  refine lv_aload_n hx hb dX11_rank_0 rfl (lv_at hl 0 rfl) ?_
  refine lv_iload_n hx hb dX11_rank_1 rfl (lv_at hl 1 rfl) ?_
  refine q_goiF (va_runV (As := [.int x1]) (rest := []) C (c_isGuess l dC dI cB cI cJ cZ cS h a v f g hv18 hf20_0 hf46_0 x1 _) (cwV 1 hts gX11_rank_X11_isGuess rfl rfl rfl (by decide +kernel) ⟨Nat.le_of_ble_eq_true rfl, Nat.le_of_ble_eq_true rfl⟩) (q_preV hK hP (ci := 11) (q0 := 0) rfl rfl rfl (q_preF hN hK hP hD)) rfl rfl hl.1 rfl (lv_room (Nat.le_of_ble_eq_true rfl)) dX11_rank_2 ⟨Nat.le_of_ble_eq_true rfl, Nat.le_of_ble_eq_true rfl⟩) hD hS hA (fun r w1 H locs hw hP hD hS => ?_)
  obtain ⟨rfl, rfl⟩ := hw
  refine lv_if_ne (tgt := 10) hx hb dX11_rank_5 (by decide) (fun c1 => ?_) (fun c1 => ?_)
  · skip
    obtain rfl : x1 = 0 := sp_in_00 c1
    refine lv_aload_n hx hb dX11_rank_10 rfl (lv_at hl 0 rfl) ?_
    refine q_govF (va_runV (As := []) (rest := []) C (c_fillsChances l dC dI cB cI cJ cZ cS h a v f g hv18 hf26_0 hv45 hf20_0 hf46_0 (hrow) _) (cwV 0 hts gX11_rank_X11_fillsChances rfl rfl rfl (by decide +kernel) ⟨Nat.le_of_ble_eq_true rfl, Nat.le_of_ble_eq_true rfl⟩) (q_preV hK hP (ci := 11) (q0 := 0) rfl rfl rfl (q_preF hN hK hP hD)) rfl rfl hl.1 rfl (lv_room (Nat.le_of_ble_eq_true rfl)) dX11_rank_11 ⟨Nat.le_of_ble_eq_true rfl, Nat.le_of_ble_eq_true rfl⟩) hD hS hA (fun w1 H locs hw hP hD hS => ?_)
    obtain rfl := hw
    refine lv_aload_n hx hb dX11_rank_14 rfl (lv_at hl 0 rfl) ?_
    refine lv_iload_n hx hb dX11_rank_15 rfl (lv_at hl 1 rfl) ?_
    refine q_goiF (va_runV (As := [.int 0]) (rest := []) C (c_isCase l dC dI cB cI cJ cZ cS h a v (va_up f 50 (upd (f 50) 0 1)) g hv18 hf20_0 0 _) (cwV 1 hts gX11_rank_X11_isCase rfl rfl rfl (by decide +kernel) ⟨Nat.le_of_ble_eq_true rfl, Nat.le_of_ble_eq_true rfl⟩) (q_preV hK hP (ci := 11) (q0 := 0) rfl rfl rfl (q_preF hN hK hP hD)) rfl rfl hl.1 rfl (lv_room (Nat.le_of_ble_eq_true rfl)) dX11_rank_16 ⟨Nat.le_of_ble_eq_true rfl, Nat.le_of_ble_eq_true rfl⟩) hD hS hA (fun r w1 H locs hw hP hD hS => ?_)
    obtain ⟨rfl, rfl⟩ := hw
    refine lv_if_ne (tgt := 25) hx hb dX11_rank_19 (by decide) (fun _ => ?_) (fun h => absurd h (by decide +kernel))
    refine lv_iconst (v := 0) hx hb dX11_rank_25 (by decide) ?_
    refine lv_istore_n (lv' := [(2, .int 0), (0, .ref h), (1, .int 0)]) hx hb dX11_rank_26 rfl hl (by decide) rfl (fun ls hl => ?_)
    refine lv_iconst (v := 0) hx hb dX11_rank_27 (by decide) ?_
    refine lv_istore_n (lv' := [(3, .int 0), (2, .int 0), (0, .ref h), (1, .int 0)]) hx hb dX11_rank_28 rfl hl (by decide) rfl (fun ls hl => ?_)
    refine lv_iload_n hx hb dX11_rank_29 rfl (lv_at hl 0 rfl) ?_
    refine lv_aload_n hx hb dX11_rank_30 rfl (lv_at hl 2 rfl) ?_
    refine q_goiF (va_runV (As := []) (rest := [.int 0]) C (c_guesses l dC dI cB cI cJ cZ cS h a v (va_up f 50 (upd (f 50) 0 1)) g hv18 hf20_0 hf46_0 _) (cwV 0 hts gX11_rank_X11_guesses rfl rfl rfl (by decide +kernel) ⟨Nat.le_of_ble_eq_true rfl, Nat.le_of_ble_eq_true rfl⟩) (q_preV hK hP (ci := 11) (q0 := 0) rfl rfl rfl (q_preF hN hK hP hD)) rfl rfl hl.1 rfl (lv_room (Nat.le_of_ble_eq_true rfl)) dX11_rank_31 ⟨Nat.le_of_ble_eq_true rfl, Nat.le_of_ble_eq_true rfl⟩) hD hS hA (fun r w1 H locs hw hP hD hS => ?_)
    obtain ⟨rfl, rfl⟩ := hw
    refine lv_icmp_ge (tgt := 55) hx hb dX11_rank_34 (by decide) (fun h => absurd h (by decide +kernel)) (fun _ => ?_)
    refine lv_aload_n hx hb dX11_rank_37 rfl (lv_at hl 2 rfl) ?_
    refine lv_iload_n hx hb dX11_rank_38 rfl (lv_at hl 0 rfl) ?_
    refine lv_iload_n hx hb dX11_rank_39 rfl (lv_at hl 3 rfl) ?_
    refine q_goiF (va_runV (As := [.int 0, .int 0]) (rest := []) C (c_isAhead l dC dI cB cI cJ cZ cS h a v (va_up f 50 (upd (f 50) 0 1)) g rfl _) (cwV 2 hts gX11_rank_X11_isAhead rfl rfl rfl (by decide +kernel) ⟨Nat.le_of_ble_eq_true rfl, Nat.le_of_ble_eq_true rfl⟩) (q_preV hK hP (ci := 11) (q0 := 0) rfl rfl rfl (q_preF hN hK hP hD)) rfl rfl hl.1 rfl (lv_room (Nat.le_of_ble_eq_true rfl)) dX11_rank_40 ⟨Nat.le_of_ble_eq_true rfl, Nat.le_of_ble_eq_true rfl⟩) hD hS hA (fun r w1 H locs hw hP hD hS => ?_)
    obtain ⟨rfl, rfl⟩ := hw
    refine lv_if_eq (tgt := 49) hx hb dX11_rank_43 (by decide) (fun _ => ?_) (fun h => absurd (by decide +kernel) h)
    refine lv_iinc (v := 1) (lv' := [(3, .int 1), (2, .int 0), (0, .ref h), (1, .int 0)]) hx hb dX11_rank_49 hl (k := 0) rfl (by decide +kernel) (by decide) rfl (fun ls hl => ?_)
    refine lv_goto (tgt := 29) hx hb dX11_rank_52 (by decide) ?_
    refine lv_iload_n hx hb dX11_rank_29 rfl (lv_at hl 0 rfl) ?_
    refine lv_aload_n hx hb dX11_rank_30 rfl (lv_at hl 2 rfl) ?_
    refine q_goiF (va_runV (As := []) (rest := [.int 1]) C (c_guesses l dC dI cB cI cJ cZ cS h a v (va_up f 50 (upd (f 50) 0 1)) g hv18 hf20_0 hf46_0 _) (cwV 0 hts gX11_rank_X11_guesses rfl rfl rfl (by decide +kernel) ⟨Nat.le_of_ble_eq_true rfl, Nat.le_of_ble_eq_true rfl⟩) (q_preV hK hP (ci := 11) (q0 := 0) rfl rfl rfl (q_preF hN hK hP hD)) rfl rfl hl.1 rfl (lv_room (Nat.le_of_ble_eq_true rfl)) dX11_rank_31 ⟨Nat.le_of_ble_eq_true rfl, Nat.le_of_ble_eq_true rfl⟩) hD hS hA (fun r w1 H locs hw hP hD hS => ?_)
    obtain ⟨rfl, rfl⟩ := hw
    refine lv_icmp_ge (tgt := 55) hx hb dX11_rank_34 (by decide) (fun _ => ?_) (fun h => absurd (by decide +kernel) h)
    refine lv_iload_n hx hb dX11_rank_55 rfl (lv_at hl 1 rfl) ?_
    exact q_iret C hr hlocks hK hP hD hS (Nat.le_of_ble_eq_true rfl) (Nat.le_of_ble_eq_true rfl) dX11_rank_56 (by decide +kernel)
  · skip
    refine lv_iconst (v := (-1)) hx hb dX11_rank_8 (by decide) ?_
    exact q_iret C hr hlocks hK hP hD hS (Nat.le_of_ble_eq_true rfl) (Nat.le_of_ble_eq_true rfl) dX11_rank_9 (by unfold fr_one; rw [if_pos c1])

set_option maxHeartbeats 4000000 in
set_option maxRecDepth 100000 in
theorem c_wisest (l : Launch) (dC : Nat → ClassId) (dI : Nat → Nat → Nat) (cB cI cJ cZ cS : ClassId) (h : Nat) (a : Nat → Nat) (v : Nat → Int32) (f : Nat → Nat → Int32) (g : Nat → Nat → Int64) (hv18 : v 18 = 0) (hf26_0 : f 26 0 = 0) (hv45 : v 45 = 0) (hf20_0 : f 20 0 = 0) (hf46_0 : f 46 0 = 1) (x1 : Int32) (hrow : ∀ j, j < 29 → f 44 j = f 43 j) : CI l yX11_wisest wsX11_wisest ({ frames := 2, cells := 0, slots := 0, locals := 48 }) (dC, dI) (tysA cB cI cJ cZ cS) (mw cB cI cJ cZ h a v f g) [.ref h, .int x1] (fun r _ => r = (fr_wis x1)) := by
  refine open_I (cc := cX11_wisest) (maxL := 6) (ret := (some .int)) (by decide) rfl (Nat.le_of_ble_eq_true rfl) ?_
  intro p e s m below meth c A ls E
  obtain ⟨C, hr, hlocks, hnm, hA, hP, hK, hD, hN, hl⟩ := E
  obtain ⟨hx, hb, hml, hown, hts⟩ := id C
  have hS : va_S A s.heap s.heap [] := va_S.rf
  have hl : lv_has ls 6 [(0, .ref h), (1, .int x1)] := hl
  refine lv_iload_n hx hb dX11_wisest_0 rfl (lv_at hl 1 rfl) ?_
  refine lv_iconst (v := 0) hx hb dX11_wisest_1 (by decide) ?_
  refine lv_iconst (v := 1) hx hb dX11_wisest_2 (by decide) ?_
  refine q_goi0 (va_runS (As := [.int x1, .int 0, .int 1]) (rest := []) C (c_in l dC dI cB cI cJ cZ cS x1 0 1 _) (va_cwS 3 hts gX11_wisest_X11_in rfl rfl rfl (by decide +kernel) ⟨Nat.le_of_ble_eq_true rfl, Nat.le_of_ble_eq_true rfl⟩) (q_pre0 hN hK) rfl rfl hl.1 rfl (lv_room (Nat.le_of_ble_eq_true rfl)) dX11_wisest_3 ⟨Nat.le_of_ble_eq_true rfl, Nat.le_of_ble_eq_true rfl⟩) hP hD hS hA (fun r w1 H locs hw hP hS => ?_)
  obtain rfl := hw
  refine lv_if_ne (tgt := 11) hx hb dX11_wisest_6 (by decide) (fun c1 => ?_) (fun c1 => ?_)
  · skip
    obtain rfl | rfl := sp_in_2c c1
    · skip
      refine lv_aload_n hx hb dX11_wisest_11 rfl (lv_at hl 0 rfl) ?_
      refine q_govF (va_runV (As := []) (rest := []) C (c_copies l dC dI cB cI cJ cZ cS h a v f g hv18 hf26_0 hv45 (hrow) _) (cwV 0 hts gX11_wisest_X11_copies rfl rfl rfl (by decide +kernel) ⟨Nat.le_of_ble_eq_true rfl, Nat.le_of_ble_eq_true rfl⟩) (q_preV hK hP (ci := 11) (q0 := 0) rfl rfl rfl (q_preF hN hK hP hD)) rfl rfl hl.1 rfl (lv_room (Nat.le_of_ble_eq_true rfl)) dX11_wisest_12 ⟨Nat.le_of_ble_eq_true rfl, Nat.le_of_ble_eq_true rfl⟩) hD hS hA (fun w1 H locs hw hP hD hS => ?_)
      obtain rfl := hw
      refine lv_aload_n hx hb dX11_wisest_15 rfl (lv_at hl 0 rfl) ?_
      refine q_goiF (va_runV (As := []) (rest := []) C (c_casesNow l dC dI cB cI cJ cZ cS h a v f g hv18 hf20_0 _) (cwV 0 hts gX11_wisest_X11_casesNow rfl rfl rfl (by decide +kernel) ⟨Nat.le_of_ble_eq_true rfl, Nat.le_of_ble_eq_true rfl⟩) (q_preV hK hP (ci := 11) (q0 := 0) rfl rfl rfl (q_preF hN hK hP hD)) rfl rfl hl.1 rfl (lv_room (Nat.le_of_ble_eq_true rfl)) dX11_wisest_16 ⟨Nat.le_of_ble_eq_true rfl, Nat.le_of_ble_eq_true rfl⟩) hD hS hA (fun r w1 H locs hw hP hD hS => ?_)
      obtain ⟨rfl, rfl⟩ := hw
      refine lv_if_ne (tgt := 25) hx hb dX11_wisest_19 (by decide) (fun _ => ?_) (fun h => absurd h (by decide +kernel))
      refine lv_iconst (v := 0) hx hb dX11_wisest_25 (by decide) ?_
      refine lv_istore_n (lv' := [(2, .int 0), (0, .ref h), (1, .int 0)]) hx hb dX11_wisest_26 rfl hl (by decide) rfl (fun ls hl => ?_)
      refine lv_aload_n hx hb dX11_wisest_27 rfl (lv_at hl 1 rfl) ?_
      refine lv_iconst (v := 0) hx hb dX11_wisest_28 (by decide) ?_
      refine q_goiF (va_runV (As := [.int 0]) (rest := []) C (c_leftOf l dC dI cB cI cJ cZ cS h a v f g hv18 hf20_0 0 _) (cwV 1 hts gX11_wisest_X11_leftOf rfl rfl rfl (by decide +kernel) ⟨Nat.le_of_ble_eq_true rfl, Nat.le_of_ble_eq_true rfl⟩) (q_preV hK hP (ci := 11) (q0 := 0) rfl rfl rfl (q_preF hN hK hP hD)) rfl rfl hl.1 rfl (lv_room (Nat.le_of_ble_eq_true rfl)) dX11_wisest_29 ⟨Nat.le_of_ble_eq_true rfl, Nat.le_of_ble_eq_true rfl⟩) hD hS hA (fun r w1 H locs hw hP hD hS => ?_)
      obtain ⟨rfl, rfl⟩ := hw
      refine lv_istore_n (lv' := [(3, .int 1), (2, .int 0), (0, .ref h), (1, .int 0)]) hx hb dX11_wisest_32 rfl hl (by decide) rfl (fun ls hl => ?_)
      refine lv_iconst (v := 1) hx hb dX11_wisest_33 (by decide) ?_
      refine lv_istore (lv' := [(4, .int 1), (3, .int 1), (2, .int 0), (0, .ref h), (1, .int 0)]) hx hb dX11_wisest_34 hl (by decide) rfl (fun ls hl => ?_)
      refine lv_iload hx hb dX11_wisest_36 (lv_at hl 0 rfl) ?_
      refine lv_aload_n hx hb dX11_wisest_38 rfl (lv_at hl 3 rfl) ?_
      refine q_goiF (va_runV (As := []) (rest := [.int 1]) C (c_guesses l dC dI cB cI cJ cZ cS h a v f g hv18 hf20_0 hf46_0 _) (cwV 0 hts gX11_wisest_X11_guesses rfl rfl rfl (by decide +kernel) ⟨Nat.le_of_ble_eq_true rfl, Nat.le_of_ble_eq_true rfl⟩) (q_preV hK hP (ci := 11) (q0 := 0) rfl rfl rfl (q_preF hN hK hP hD)) rfl rfl hl.1 rfl (lv_room (Nat.le_of_ble_eq_true rfl)) dX11_wisest_39 ⟨Nat.le_of_ble_eq_true rfl, Nat.le_of_ble_eq_true rfl⟩) hD hS hA (fun r w1 H locs hw hP hD hS => ?_)
      obtain ⟨rfl, rfl⟩ := hw
      refine lv_icmp_ge (tgt := 74) hx hb dX11_wisest_42 (by decide) (fun _ => ?_) (fun h => absurd (by decide +kernel) h)
      refine lv_iload_n hx hb dX11_wisest_74 rfl (lv_at hl 4 rfl) ?_
      refine lv_if_ne (tgt := 82) hx hb dX11_wisest_75 (by decide) (fun h => absurd (by decide +kernel) h) (fun _ => ?_)
      refine lv_iload_n hx hb dX11_wisest_78 rfl (lv_at hl 2 rfl) ?_
      refine lv_goto (tgt := 83) hx hb dX11_wisest_79 (by decide) ?_
      exact q_iret C hr hlocks hK hP hD hS (Nat.le_of_ble_eq_true rfl) (Nat.le_of_ble_eq_true rfl) dX11_wisest_83 (by decide +kernel)
    · skip
      refine lv_aload_n hx hb dX11_wisest_11 rfl (lv_at hl 0 rfl) ?_
      refine q_govF (va_runV (As := []) (rest := []) C (c_copies l dC dI cB cI cJ cZ cS h a v f g hv18 hf26_0 hv45 (hrow) _) (cwV 0 hts gX11_wisest_X11_copies rfl rfl rfl (by decide +kernel) ⟨Nat.le_of_ble_eq_true rfl, Nat.le_of_ble_eq_true rfl⟩) (q_preV hK hP (ci := 11) (q0 := 0) rfl rfl rfl (q_preF hN hK hP hD)) rfl rfl hl.1 rfl (lv_room (Nat.le_of_ble_eq_true rfl)) dX11_wisest_12 ⟨Nat.le_of_ble_eq_true rfl, Nat.le_of_ble_eq_true rfl⟩) hD hS hA (fun w1 H locs hw hP hD hS => ?_)
      obtain rfl := hw
      refine lv_aload_n hx hb dX11_wisest_15 rfl (lv_at hl 0 rfl) ?_
      refine q_goiF (va_runV (As := []) (rest := []) C (c_casesNow l dC dI cB cI cJ cZ cS h a v f g hv18 hf20_0 _) (cwV 0 hts gX11_wisest_X11_casesNow rfl rfl rfl (by decide +kernel) ⟨Nat.le_of_ble_eq_true rfl, Nat.le_of_ble_eq_true rfl⟩) (q_preV hK hP (ci := 11) (q0 := 0) rfl rfl rfl (q_preF hN hK hP hD)) rfl rfl hl.1 rfl (lv_room (Nat.le_of_ble_eq_true rfl)) dX11_wisest_16 ⟨Nat.le_of_ble_eq_true rfl, Nat.le_of_ble_eq_true rfl⟩) hD hS hA (fun r w1 H locs hw hP hD hS => ?_)
      obtain ⟨rfl, rfl⟩ := hw
      refine lv_if_ne (tgt := 25) hx hb dX11_wisest_19 (by decide) (fun _ => ?_) (fun h => absurd h (by decide +kernel))
      refine lv_iconst (v := 0) hx hb dX11_wisest_25 (by decide) ?_
      refine lv_istore_n (lv' := [(2, .int 0), (0, .ref h), (1, .int 1)]) hx hb dX11_wisest_26 rfl hl (by decide) rfl (fun ls hl => ?_)
      refine lv_aload_n hx hb dX11_wisest_27 rfl (lv_at hl 1 rfl) ?_
      refine lv_iconst (v := 0) hx hb dX11_wisest_28 (by decide) ?_
      refine q_goiF (va_runV (As := [.int 0]) (rest := []) C (c_leftOf l dC dI cB cI cJ cZ cS h a v f g hv18 hf20_0 0 _) (cwV 1 hts gX11_wisest_X11_leftOf rfl rfl rfl (by decide +kernel) ⟨Nat.le_of_ble_eq_true rfl, Nat.le_of_ble_eq_true rfl⟩) (q_preV hK hP (ci := 11) (q0 := 0) rfl rfl rfl (q_preF hN hK hP hD)) rfl rfl hl.1 rfl (lv_room (Nat.le_of_ble_eq_true rfl)) dX11_wisest_29 ⟨Nat.le_of_ble_eq_true rfl, Nat.le_of_ble_eq_true rfl⟩) hD hS hA (fun r w1 H locs hw hP hD hS => ?_)
      obtain ⟨rfl, rfl⟩ := hw
      refine lv_istore_n (lv' := [(3, .int 1), (2, .int 0), (0, .ref h), (1, .int 1)]) hx hb dX11_wisest_32 rfl hl (by decide) rfl (fun ls hl => ?_)
      refine lv_iconst (v := 1) hx hb dX11_wisest_33 (by decide) ?_
      refine lv_istore (lv' := [(4, .int 1), (3, .int 1), (2, .int 0), (0, .ref h), (1, .int 1)]) hx hb dX11_wisest_34 hl (by decide) rfl (fun ls hl => ?_)
      refine lv_iload hx hb dX11_wisest_36 (lv_at hl 0 rfl) ?_
      refine lv_aload_n hx hb dX11_wisest_38 rfl (lv_at hl 3 rfl) ?_
      refine q_goiF (va_runV (As := []) (rest := [.int 1]) C (c_guesses l dC dI cB cI cJ cZ cS h a v f g hv18 hf20_0 hf46_0 _) (cwV 0 hts gX11_wisest_X11_guesses rfl rfl rfl (by decide +kernel) ⟨Nat.le_of_ble_eq_true rfl, Nat.le_of_ble_eq_true rfl⟩) (q_preV hK hP (ci := 11) (q0 := 0) rfl rfl rfl (q_preF hN hK hP hD)) rfl rfl hl.1 rfl (lv_room (Nat.le_of_ble_eq_true rfl)) dX11_wisest_39 ⟨Nat.le_of_ble_eq_true rfl, Nat.le_of_ble_eq_true rfl⟩) hD hS hA (fun r w1 H locs hw hP hD hS => ?_)
      obtain ⟨rfl, rfl⟩ := hw
      refine lv_icmp_ge (tgt := 74) hx hb dX11_wisest_42 (by decide) (fun _ => ?_) (fun h => absurd (by decide +kernel) h)
      refine lv_iload_n hx hb dX11_wisest_74 rfl (lv_at hl 4 rfl) ?_
      refine lv_if_ne (tgt := 82) hx hb dX11_wisest_75 (by decide) (fun _ => ?_) (fun h => absurd h (by decide +kernel))
      refine lv_iload_n hx hb dX11_wisest_82 rfl (lv_at hl 1 rfl) ?_
      exact q_iret C hr hlocks hK hP hD hS (Nat.le_of_ble_eq_true rfl) (Nat.le_of_ble_eq_true rfl) dX11_wisest_83 (by decide +kernel)
  · skip
    refine lv_iconst (v := (-1)) hx hb dX11_wisest_9 (by decide) ?_
    exact q_iret C hr hlocks hK hP hD hS (Nat.le_of_ble_eq_true rfl) (Nat.le_of_ble_eq_true rfl) dX11_wisest_10 (by unfold fr_wis; rw [if_pos c1])

set_option maxHeartbeats 4000000 in
set_option maxRecDepth 100000 in
theorem c_dearest (l : Launch) (dC : Nat → ClassId) (dI : Nat → Nat → Nat) (cB cI cJ cZ cS : ClassId) (h : Nat) (a : Nat → Nat) (v : Nat → Int32) (f : Nat → Nat → Int32) (g : Nat → Nat → Int64) (hv18 : v 18 = 0) (hf26_0 : f 26 0 = 0) (hv45 : v 45 = 0) (hf23_0 : f 23 0 = 0) (x1 : Int32) (hrow : ∀ j, j < 29 → f 44 j = f 43 j) : CI l yX11_dearest wsX11_dearest ({ frames := 1, cells := 0, slots := 0, locals := 22 }) (dC, dI) (tysA cB cI cJ cZ cS) (mw cB cI cJ cZ h a v f g) [.ref h, .int x1] (fun r _ => r = (fr_dear x1)) := by
  refine open_I (cc := cX11_dearest) (maxL := 4) (ret := (some .int)) (by decide) rfl (Nat.le_of_ble_eq_true rfl) ?_
  intro p e s m below meth c A ls E
  obtain ⟨C, hr, hlocks, hnm, hA, hP, hK, hD, hN, hl⟩ := E
  obtain ⟨hx, hb, hml, hown, hts⟩ := id C
  have hS : va_S A s.heap s.heap [] := va_S.rf
  have hl : lv_has ls 4 [(0, .ref h), (1, .int x1)] := hl
  have inX11 : ∀ w ∈ u_ws RX11 TX11 58, w ∈ wsX11_dearest := by decide +kernel
  have L215 : Cond.fieldLink RX11 215 "GuessFerryModel" "live" "I" ∈ wsX11_dearest := by decide +kernel
  have L49 : Cond.fieldLink RX11 49 "GuessFerryModel" "parties" "[I" ∈ wsX11_dearest := by decide +kernel
  refine lv_iload_n hx hb dX11_dearest_0 rfl (lv_at hl 1 rfl) ?_
  refine lv_iconst (v := 0) hx hb dX11_dearest_1 (by decide) ?_
  refine lv_iconst (v := 1) hx hb dX11_dearest_2 (by decide) ?_
  refine q_goi0 (va_runS (As := [.int x1, .int 0, .int 1]) (rest := []) C (c_in l dC dI cB cI cJ cZ cS x1 0 1 _) (va_cwS 3 hts gX11_dearest_X11_in rfl rfl rfl (by decide +kernel) ⟨Nat.le_of_ble_eq_true rfl, Nat.le_of_ble_eq_true rfl⟩) (q_pre0 hN hK) rfl rfl hl.1 rfl (lv_room (Nat.le_of_ble_eq_true rfl)) dX11_dearest_3 ⟨Nat.le_of_ble_eq_true rfl, Nat.le_of_ble_eq_true rfl⟩) hP hD hS hA (fun r w1 H locs hw hP hS => ?_)
  obtain rfl := hw
  refine lv_if_ne (tgt := 11) hx hb dX11_dearest_6 (by decide) (fun c1 => ?_) (fun c1 => ?_)
  · skip
    obtain rfl | rfl := sp_in_2c c1
    · skip
      refine lv_aload_n hx hb dX11_dearest_11 rfl (lv_at hl 0 rfl) ?_
      refine q_govF (va_runV (As := []) (rest := []) C (c_copies l dC dI cB cI cJ cZ cS h a v f g hv18 hf26_0 hv45 (hrow) _) (cwV 0 hts gX11_dearest_X11_copies rfl rfl rfl (by decide +kernel) ⟨Nat.le_of_ble_eq_true rfl, Nat.le_of_ble_eq_true rfl⟩) (q_preV hK hP (ci := 11) (q0 := 0) rfl rfl rfl (q_preF hN hK hP hD)) rfl rfl hl.1 rfl (lv_room (Nat.le_of_ble_eq_true rfl)) dX11_dearest_12 ⟨Nat.le_of_ble_eq_true rfl, Nat.le_of_ble_eq_true rfl⟩) hD hS hA (fun w1 H locs hw hP hD hS => ?_)
      obtain rfl := hw
      refine lv_bipush (v := (-2)) hx hb dX11_dearest_15 (by decide) ?_
      refine lv_istore_n (lv' := [(2, .int (-2)), (0, .ref h), (1, .int 0)]) hx hb dX11_dearest_17 rfl hl (by decide) rfl (fun ls hl => ?_)
      refine lv_iconst (v := 0) hx hb dX11_dearest_18 (by decide) ?_
      refine lv_istore_n (lv' := [(3, .int 0), (2, .int (-2)), (0, .ref h), (1, .int 0)]) hx hb dX11_dearest_19 rfl hl (by decide) rfl (fun ls hl => ?_)
      refine lv_iload_n hx hb dX11_dearest_20 rfl (lv_at hl 0 rfl) ?_
      refine lv_aload_n hx hb dX11_dearest_21 rfl (lv_at hl 2 rfl) ?_
      refine q_get (v := .ref (a 23)) C inX11 hK hP 0 rfl rfl 23 (by decide) rfl L49 rfl dX11_dearest_22 ?_
      refine lv_aload_n hx hb dX11_dearest_25 rfl (lv_at hl 2 rfl) ?_
      refine q_get (v := .int (v 18)) C inX11 hK hP 0 rfl rfl 18 (by decide) rfl L215 rfl dX11_dearest_26 ?_
      refine q_top (y := 0) (hv18) ?_
      refine q_iald (x := 0) C hK hP 11 1 rfl rfl (vp_lit (by decide +kernel)) dX11_dearest_29 (hf23_0) ?_
      refine lv_icmp_ge (tgt := 58) hx hb dX11_dearest_30 (by decide) (fun _ => ?_) (fun h => absurd (by decide +kernel) h)
      refine lv_iload_n hx hb dX11_dearest_58 rfl (lv_at hl 1 rfl) ?_
      refine lv_if_lt (tgt := 66) hx hb dX11_dearest_59 (by decide) (fun _ => ?_) (fun h => absurd (by decide +kernel) h)
      refine lv_iload_n hx hb dX11_dearest_66 rfl (lv_at hl 1 rfl) ?_
      refine lv_goto (tgt := 75) hx hb dX11_dearest_67 (by decide) ?_
      exact q_iret C hr hlocks hK hP hD hS (Nat.le_of_ble_eq_true rfl) (Nat.le_of_ble_eq_true rfl) dX11_dearest_75 (by decide +kernel)
    · skip
      refine lv_aload_n hx hb dX11_dearest_11 rfl (lv_at hl 0 rfl) ?_
      refine q_govF (va_runV (As := []) (rest := []) C (c_copies l dC dI cB cI cJ cZ cS h a v f g hv18 hf26_0 hv45 (hrow) _) (cwV 0 hts gX11_dearest_X11_copies rfl rfl rfl (by decide +kernel) ⟨Nat.le_of_ble_eq_true rfl, Nat.le_of_ble_eq_true rfl⟩) (q_preV hK hP (ci := 11) (q0 := 0) rfl rfl rfl (q_preF hN hK hP hD)) rfl rfl hl.1 rfl (lv_room (Nat.le_of_ble_eq_true rfl)) dX11_dearest_12 ⟨Nat.le_of_ble_eq_true rfl, Nat.le_of_ble_eq_true rfl⟩) hD hS hA (fun w1 H locs hw hP hD hS => ?_)
      obtain rfl := hw
      refine lv_bipush (v := (-2)) hx hb dX11_dearest_15 (by decide) ?_
      refine lv_istore_n (lv' := [(2, .int (-2)), (0, .ref h), (1, .int 1)]) hx hb dX11_dearest_17 rfl hl (by decide) rfl (fun ls hl => ?_)
      refine lv_iconst (v := 0) hx hb dX11_dearest_18 (by decide) ?_
      refine lv_istore_n (lv' := [(3, .int 0), (2, .int (-2)), (0, .ref h), (1, .int 1)]) hx hb dX11_dearest_19 rfl hl (by decide) rfl (fun ls hl => ?_)
      refine lv_iload_n hx hb dX11_dearest_20 rfl (lv_at hl 0 rfl) ?_
      refine lv_aload_n hx hb dX11_dearest_21 rfl (lv_at hl 2 rfl) ?_
      refine q_get (v := .ref (a 23)) C inX11 hK hP 0 rfl rfl 23 (by decide) rfl L49 rfl dX11_dearest_22 ?_
      refine lv_aload_n hx hb dX11_dearest_25 rfl (lv_at hl 2 rfl) ?_
      refine q_get (v := .int (v 18)) C inX11 hK hP 0 rfl rfl 18 (by decide) rfl L215 rfl dX11_dearest_26 ?_
      refine q_top (y := 0) (hv18) ?_
      refine q_iald (x := 0) C hK hP 11 1 rfl rfl (vp_lit (by decide +kernel)) dX11_dearest_29 (hf23_0) ?_
      refine lv_icmp_ge (tgt := 58) hx hb dX11_dearest_30 (by decide) (fun _ => ?_) (fun h => absurd (by decide +kernel) h)
      refine lv_iload_n hx hb dX11_dearest_58 rfl (lv_at hl 1 rfl) ?_
      refine lv_if_lt (tgt := 66) hx hb dX11_dearest_59 (by decide) (fun _ => ?_) (fun h => absurd (by decide +kernel) h)
      refine lv_iload_n hx hb dX11_dearest_66 rfl (lv_at hl 1 rfl) ?_
      refine lv_goto (tgt := 75) hx hb dX11_dearest_67 (by decide) ?_
      exact q_iret C hr hlocks hK hP hD hS (Nat.le_of_ble_eq_true rfl) (Nat.le_of_ble_eq_true rfl) dX11_dearest_75 (by decide +kernel)
  · skip
    refine lv_iconst (v := (-1)) hx hb dX11_dearest_9 (by decide) ?_
    exact q_iret C hr hlocks hK hP hD hS (Nat.le_of_ble_eq_true rfl) (Nat.le_of_ble_eq_true rfl) dX11_dearest_10 (by unfold fr_dear; rw [if_pos c1])

set_option maxHeartbeats 4000000 in
set_option maxRecDepth 100000 in
theorem c_allGo (l : Launch) (dC : Nat → ClassId) (dI : Nat → Nat → Nat) (cB cI cJ cZ cS : ClassId) (h : Nat) (a : Nat → Nat) (v : Nat → Int32) (f : Nat → Nat → Int32) (g : Nat → Nat → Int64) (hv18 : v 18 = 0) (hf26_0 : f 26 0 = 0) (hv45 : v 45 = 0) (hf20_0 : f 20 0 = 0) (hf23_0 : f 23 0 = 0) (hf44_28 : f 44 28 = 0) (hf43_28 : f 43 28 = 0) (x1 : Int32) (hrow : ∀ j, j < 29 → f 44 j = f 43 j) : CI l yX11_allGo wsX11_allGo ({ frames := 1, cells := 0, slots := 0, locals := 23 }) (dC, dI) (tysA cB cI cJ cZ cS) (mw cB cI cJ cZ h a v f g) [.ref h, .int x1] (fun r _ => r = (fr_all x1)) := by
  refine open_I (cc := cX11_allGo) (maxL := 5) (ret := (some .int)) (by decide) rfl (Nat.le_of_ble_eq_true rfl) ?_
  intro p e s m below meth c A ls E
  obtain ⟨C, hr, hlocks, hnm, hA, hP, hK, hD, hN, hl⟩ := E
  obtain ⟨hx, hb, hml, hown, hts⟩ := id C
  have hS : va_S A s.heap s.heap [] := va_S.rf
  have hl : lv_has ls 5 [(0, .ref h), (1, .int x1)] := hl
  have inX11 : ∀ w ∈ u_ws RX11 TX11 58, w ∈ wsX11_allGo := by decide +kernel
  have L101 : Cond.fieldLink RX11 101 "GuessFerryModel" "row" "[I" ∈ wsX11_allGo := by decide +kernel
  have L215 : Cond.fieldLink RX11 215 "GuessFerryModel" "live" "I" ∈ wsX11_allGo := by decide +kernel
  have L49 : Cond.fieldLink RX11 49 "GuessFerryModel" "parties" "[I" ∈ wsX11_allGo := by decide +kernel
  have L98 : Cond.fieldLink RX11 98 "GuessFerryModel" "now" "[I" ∈ wsX11_allGo := by decide +kernel
  refine lv_iload_n hx hb dX11_allGo_0 rfl (lv_at hl 1 rfl) ?_
  refine lv_iconst (v := 0) hx hb dX11_allGo_1 (by decide) ?_
  refine lv_iconst (v := 2) hx hb dX11_allGo_2 (by decide) ?_
  refine q_goi0 (va_runS (As := [.int x1, .int 0, .int 2]) (rest := []) C (c_in l dC dI cB cI cJ cZ cS x1 0 2 _) (va_cwS 3 hts gX11_allGo_X11_in rfl rfl rfl (by decide +kernel) ⟨Nat.le_of_ble_eq_true rfl, Nat.le_of_ble_eq_true rfl⟩) (q_pre0 hN hK) rfl rfl hl.1 rfl (lv_room (Nat.le_of_ble_eq_true rfl)) dX11_allGo_3 ⟨Nat.le_of_ble_eq_true rfl, Nat.le_of_ble_eq_true rfl⟩) hP hD hS hA (fun r w1 H locs hw hP hS => ?_)
  obtain rfl := hw
  refine lv_if_ne (tgt := 11) hx hb dX11_allGo_6 (by decide) (fun c1 => ?_) (fun c1 => ?_)
  · skip
    obtain rfl | rfl | rfl := sp_in_3c c1
    · skip
      refine lv_aload_n hx hb dX11_allGo_11 rfl (lv_at hl 0 rfl) ?_
      refine q_govF (va_runV (As := []) (rest := []) C (c_copies l dC dI cB cI cJ cZ cS h a v f g hv18 hf26_0 hv45 (hrow) _) (cwV 0 hts gX11_allGo_X11_copies rfl rfl rfl (by decide +kernel) ⟨Nat.le_of_ble_eq_true rfl, Nat.le_of_ble_eq_true rfl⟩) (q_preV hK hP (ci := 11) (q0 := 0) rfl rfl rfl (q_preF hN hK hP hD)) rfl rfl hl.1 rfl (lv_room (Nat.le_of_ble_eq_true rfl)) dX11_allGo_12 ⟨Nat.le_of_ble_eq_true rfl, Nat.le_of_ble_eq_true rfl⟩) hD hS hA (fun w1 H locs hw hP hD hS => ?_)
      obtain rfl := hw
      refine lv_aload_n hx hb dX11_allGo_15 rfl (lv_at hl 0 rfl) ?_
      refine q_goiF (va_runV (As := []) (rest := []) C (c_thereNumber l dC dI cB cI cJ cZ cS h a v f g hv18 hf20_0 _) (cwV 0 hts gX11_allGo_X11_thereNumber rfl rfl rfl (by decide +kernel) ⟨Nat.le_of_ble_eq_true rfl, Nat.le_of_ble_eq_true rfl⟩) (q_preV hK hP (ci := 11) (q0 := 0) rfl rfl rfl (q_preF hN hK hP hD)) rfl rfl hl.1 rfl (lv_room (Nat.le_of_ble_eq_true rfl)) dX11_allGo_16 ⟨Nat.le_of_ble_eq_true rfl, Nat.le_of_ble_eq_true rfl⟩) hD hS hA (fun r w1 H locs hw hP hD hS => ?_)
      obtain ⟨rfl, rfl⟩ := hw
      refine lv_istore_n (lv' := [(2, .int 0), (0, .ref h), (1, .int 0)]) hx hb dX11_allGo_19 rfl hl (by decide) rfl (fun ls hl => ?_)
      refine lv_iconst (v := 0) hx hb dX11_allGo_20 (by decide) ?_
      refine lv_istore_n (lv' := [(3, .int 0), (2, .int 0), (0, .ref h), (1, .int 0)]) hx hb dX11_allGo_21 rfl hl (by decide) rfl (fun ls hl => ?_)
      refine lv_iload_n hx hb dX11_allGo_22 rfl (lv_at hl 0 rfl) ?_
      refine lv_aload_n hx hb dX11_allGo_23 rfl (lv_at hl 2 rfl) ?_
      refine q_get (v := .ref (a 23)) C inX11 hK hP 0 rfl rfl 23 (by decide) rfl L49 rfl dX11_allGo_24 ?_
      refine lv_aload_n hx hb dX11_allGo_27 rfl (lv_at hl 2 rfl) ?_
      refine q_get (v := .int (v 18)) C inX11 hK hP 0 rfl rfl 18 (by decide) rfl L215 rfl dX11_allGo_28 ?_
      refine q_top (y := 0) (hv18) ?_
      refine q_iald (x := 0) C hK hP 11 1 rfl rfl (vp_lit (by decide +kernel)) dX11_allGo_31 (hf23_0) ?_
      refine lv_icmp_ge (tgt := 95) hx hb dX11_allGo_32 (by decide) (fun _ => ?_) (fun h => absurd (by decide +kernel) h)
      refine lv_iload_n hx hb dX11_allGo_95 rfl (lv_at hl 3 rfl) ?_
      refine lv_if_ne (tgt := 107) hx hb dX11_allGo_96 (by decide) (fun h => absurd (by decide +kernel) h) (fun _ => ?_)
      refine lv_aload_n hx hb dX11_allGo_99 rfl (lv_at hl 2 rfl) ?_
      refine lv_iconst (v := 2) hx hb dX11_allGo_100 (by decide) ?_
      refine q_goiF (va_runV (As := [.int 2]) (rest := []) C (c_manyIn l dC dI cB cI cJ cZ cS h a v f g hv18 hf23_0 2 _) (cwV 1 hts gX11_allGo_X11_manyIn rfl rfl rfl (by decide +kernel) ⟨Nat.le_of_ble_eq_true rfl, Nat.le_of_ble_eq_true rfl⟩) (q_preV hK hP (ci := 11) (q0 := 0) rfl rfl rfl (q_preF hN hK hP hD)) rfl rfl hl.1 rfl (lv_room (Nat.le_of_ble_eq_true rfl)) dX11_allGo_101 ⟨Nat.le_of_ble_eq_true rfl, Nat.le_of_ble_eq_true rfl⟩) hD hS hA (fun r w1 H locs hw hP hD hS => ?_)
      obtain ⟨rfl, rfl⟩ := hw
      refine lv_goto (tgt := 135) hx hb dX11_allGo_104 (by decide) ?_
      exact q_iret C hr hlocks hK hP hD hS (Nat.le_of_ble_eq_true rfl) (Nat.le_of_ble_eq_true rfl) dX11_allGo_135 (by decide +kernel)
    · skip
      refine lv_aload_n hx hb dX11_allGo_11 rfl (lv_at hl 0 rfl) ?_
      refine q_govF (va_runV (As := []) (rest := []) C (c_copies l dC dI cB cI cJ cZ cS h a v f g hv18 hf26_0 hv45 (hrow) _) (cwV 0 hts gX11_allGo_X11_copies rfl rfl rfl (by decide +kernel) ⟨Nat.le_of_ble_eq_true rfl, Nat.le_of_ble_eq_true rfl⟩) (q_preV hK hP (ci := 11) (q0 := 0) rfl rfl rfl (q_preF hN hK hP hD)) rfl rfl hl.1 rfl (lv_room (Nat.le_of_ble_eq_true rfl)) dX11_allGo_12 ⟨Nat.le_of_ble_eq_true rfl, Nat.le_of_ble_eq_true rfl⟩) hD hS hA (fun w1 H locs hw hP hD hS => ?_)
      obtain rfl := hw
      refine lv_aload_n hx hb dX11_allGo_15 rfl (lv_at hl 0 rfl) ?_
      refine q_goiF (va_runV (As := []) (rest := []) C (c_thereNumber l dC dI cB cI cJ cZ cS h a v f g hv18 hf20_0 _) (cwV 0 hts gX11_allGo_X11_thereNumber rfl rfl rfl (by decide +kernel) ⟨Nat.le_of_ble_eq_true rfl, Nat.le_of_ble_eq_true rfl⟩) (q_preV hK hP (ci := 11) (q0 := 0) rfl rfl rfl (q_preF hN hK hP hD)) rfl rfl hl.1 rfl (lv_room (Nat.le_of_ble_eq_true rfl)) dX11_allGo_16 ⟨Nat.le_of_ble_eq_true rfl, Nat.le_of_ble_eq_true rfl⟩) hD hS hA (fun r w1 H locs hw hP hD hS => ?_)
      obtain ⟨rfl, rfl⟩ := hw
      refine lv_istore_n (lv' := [(2, .int 0), (0, .ref h), (1, .int 1)]) hx hb dX11_allGo_19 rfl hl (by decide) rfl (fun ls hl => ?_)
      refine lv_iconst (v := 0) hx hb dX11_allGo_20 (by decide) ?_
      refine lv_istore_n (lv' := [(3, .int 0), (2, .int 0), (0, .ref h), (1, .int 1)]) hx hb dX11_allGo_21 rfl hl (by decide) rfl (fun ls hl => ?_)
      refine lv_iload_n hx hb dX11_allGo_22 rfl (lv_at hl 0 rfl) ?_
      refine lv_aload_n hx hb dX11_allGo_23 rfl (lv_at hl 2 rfl) ?_
      refine q_get (v := .ref (a 23)) C inX11 hK hP 0 rfl rfl 23 (by decide) rfl L49 rfl dX11_allGo_24 ?_
      refine lv_aload_n hx hb dX11_allGo_27 rfl (lv_at hl 2 rfl) ?_
      refine q_get (v := .int (v 18)) C inX11 hK hP 0 rfl rfl 18 (by decide) rfl L215 rfl dX11_allGo_28 ?_
      refine q_top (y := 0) (hv18) ?_
      refine q_iald (x := 0) C hK hP 11 1 rfl rfl (vp_lit (by decide +kernel)) dX11_allGo_31 (hf23_0) ?_
      refine lv_icmp_ge (tgt := 95) hx hb dX11_allGo_32 (by decide) (fun _ => ?_) (fun h => absurd (by decide +kernel) h)
      refine lv_iload_n hx hb dX11_allGo_95 rfl (lv_at hl 3 rfl) ?_
      refine lv_if_ne (tgt := 107) hx hb dX11_allGo_96 (by decide) (fun _ => ?_) (fun h => absurd h (by decide +kernel))
      refine lv_iload_n hx hb dX11_allGo_107 rfl (lv_at hl 3 rfl) ?_
      refine lv_iconst (v := 1) hx hb dX11_allGo_108 (by decide) ?_
      refine lv_icmp_ne (tgt := 120) hx hb dX11_allGo_109 (by decide) (fun h => absurd (by decide +kernel) h) (fun _ => ?_)
      refine lv_aload_n hx hb dX11_allGo_112 rfl (lv_at hl 2 rfl) ?_
      refine lv_iconst (v := 1) hx hb dX11_allGo_113 (by decide) ?_
      refine q_goiF (va_runV (As := [.int 1]) (rest := []) C (c_manyIn l dC dI cB cI cJ cZ cS h a v f g hv18 hf23_0 1 _) (cwV 1 hts gX11_allGo_X11_manyIn rfl rfl rfl (by decide +kernel) ⟨Nat.le_of_ble_eq_true rfl, Nat.le_of_ble_eq_true rfl⟩) (q_preV hK hP (ci := 11) (q0 := 0) rfl rfl rfl (q_preF hN hK hP hD)) rfl rfl hl.1 rfl (lv_room (Nat.le_of_ble_eq_true rfl)) dX11_allGo_114 ⟨Nat.le_of_ble_eq_true rfl, Nat.le_of_ble_eq_true rfl⟩) hD hS hA (fun r w1 H locs hw hP hD hS => ?_)
      obtain ⟨rfl, rfl⟩ := hw
      refine lv_goto (tgt := 135) hx hb dX11_allGo_117 (by decide) ?_
      exact q_iret C hr hlocks hK hP hD hS (Nat.le_of_ble_eq_true rfl) (Nat.le_of_ble_eq_true rfl) dX11_allGo_135 (by decide +kernel)
    · skip
      refine lv_aload_n hx hb dX11_allGo_11 rfl (lv_at hl 0 rfl) ?_
      refine q_govF (va_runV (As := []) (rest := []) C (c_copies l dC dI cB cI cJ cZ cS h a v f g hv18 hf26_0 hv45 (hrow) _) (cwV 0 hts gX11_allGo_X11_copies rfl rfl rfl (by decide +kernel) ⟨Nat.le_of_ble_eq_true rfl, Nat.le_of_ble_eq_true rfl⟩) (q_preV hK hP (ci := 11) (q0 := 0) rfl rfl rfl (q_preF hN hK hP hD)) rfl rfl hl.1 rfl (lv_room (Nat.le_of_ble_eq_true rfl)) dX11_allGo_12 ⟨Nat.le_of_ble_eq_true rfl, Nat.le_of_ble_eq_true rfl⟩) hD hS hA (fun w1 H locs hw hP hD hS => ?_)
      obtain rfl := hw
      refine lv_aload_n hx hb dX11_allGo_15 rfl (lv_at hl 0 rfl) ?_
      refine q_goiF (va_runV (As := []) (rest := []) C (c_thereNumber l dC dI cB cI cJ cZ cS h a v f g hv18 hf20_0 _) (cwV 0 hts gX11_allGo_X11_thereNumber rfl rfl rfl (by decide +kernel) ⟨Nat.le_of_ble_eq_true rfl, Nat.le_of_ble_eq_true rfl⟩) (q_preV hK hP (ci := 11) (q0 := 0) rfl rfl rfl (q_preF hN hK hP hD)) rfl rfl hl.1 rfl (lv_room (Nat.le_of_ble_eq_true rfl)) dX11_allGo_16 ⟨Nat.le_of_ble_eq_true rfl, Nat.le_of_ble_eq_true rfl⟩) hD hS hA (fun r w1 H locs hw hP hD hS => ?_)
      obtain ⟨rfl, rfl⟩ := hw
      refine lv_istore_n (lv' := [(2, .int 0), (0, .ref h), (1, .int 2)]) hx hb dX11_allGo_19 rfl hl (by decide) rfl (fun ls hl => ?_)
      refine lv_iconst (v := 0) hx hb dX11_allGo_20 (by decide) ?_
      refine lv_istore_n (lv' := [(3, .int 0), (2, .int 0), (0, .ref h), (1, .int 2)]) hx hb dX11_allGo_21 rfl hl (by decide) rfl (fun ls hl => ?_)
      refine lv_iload_n hx hb dX11_allGo_22 rfl (lv_at hl 0 rfl) ?_
      refine lv_aload_n hx hb dX11_allGo_23 rfl (lv_at hl 2 rfl) ?_
      refine q_get (v := .ref (a 23)) C inX11 hK hP 0 rfl rfl 23 (by decide) rfl L49 rfl dX11_allGo_24 ?_
      refine lv_aload_n hx hb dX11_allGo_27 rfl (lv_at hl 2 rfl) ?_
      refine q_get (v := .int (v 18)) C inX11 hK hP 0 rfl rfl 18 (by decide) rfl L215 rfl dX11_allGo_28 ?_
      refine q_top (y := 0) (hv18) ?_
      refine q_iald (x := 0) C hK hP 11 1 rfl rfl (vp_lit (by decide +kernel)) dX11_allGo_31 (hf23_0) ?_
      refine lv_icmp_ge (tgt := 95) hx hb dX11_allGo_32 (by decide) (fun _ => ?_) (fun h => absurd (by decide +kernel) h)
      refine lv_iload_n hx hb dX11_allGo_95 rfl (lv_at hl 3 rfl) ?_
      refine lv_if_ne (tgt := 107) hx hb dX11_allGo_96 (by decide) (fun _ => ?_) (fun h => absurd h (by decide +kernel))
      refine lv_iload_n hx hb dX11_allGo_107 rfl (lv_at hl 3 rfl) ?_
      refine lv_iconst (v := 1) hx hb dX11_allGo_108 (by decide) ?_
      refine lv_icmp_ne (tgt := 120) hx hb dX11_allGo_109 (by decide) (fun _ => ?_) (fun h => absurd h (by decide +kernel))
      refine lv_aload_n hx hb dX11_allGo_120 rfl (lv_at hl 2 rfl) ?_
      refine q_get (v := .ref (a 44)) C inX11 hK hP 0 rfl rfl 44 (by decide) rfl L101 rfl dX11_allGo_121 ?_
      refine lv_bipush (v := 28) hx hb dX11_allGo_124 (by decide) ?_
      refine q_iald (x := 0) C hK hP 28 1 rfl rfl (vp_lit (by decide +kernel)) dX11_allGo_126 (hf44_28) ?_
      refine lv_aload_n hx hb dX11_allGo_127 rfl (lv_at hl 2 rfl) ?_
      refine q_get (v := .ref (a 43)) C inX11 hK hP 0 rfl rfl 43 (by decide) rfl L98 rfl dX11_allGo_128 ?_
      refine lv_bipush (v := 28) hx hb dX11_allGo_131 (by decide) ?_
      refine q_iald (x := 0) C hK hP 27 1 rfl rfl (vp_lit (by decide +kernel)) dX11_allGo_133 (hf43_28) ?_
      refine lv_isub hx hb dX11_allGo_134 ?_
      refine q_top (y := 0) (by decide +kernel) ?_
      exact q_iret C hr hlocks hK hP hD hS (Nat.le_of_ble_eq_true rfl) (Nat.le_of_ble_eq_true rfl) dX11_allGo_135 (by decide +kernel)
  · skip
    refine lv_iconst (v := (-1)) hx hb dX11_allGo_9 (by decide) ?_
    exact q_iret C hr hlocks hK hP hD hS (Nat.le_of_ble_eq_true rfl) (Nat.le_of_ble_eq_true rfl) dX11_allGo_10 (by unfold fr_all; rw [if_pos c1])
