set_option maxRecDepth 20000 in
theorem ggX11_cases_X11_copies : GoodIn wsX11_cases wsX11_copies := goodIn_r _ [5, 6, 7, 8, 9, 10, 28, 29, 30, 31, 32, 33, 34, 35, 36, 37, 38, 39, 40, 41, 42, 43, 44, 45, 46, 47, 48, 49, 50, 51, 52, 53, 54, 55, 56, 57, 58, 59, 60, 61, 62, 63, 64, 65, 66, 67, 68, 69, 70, 71, 72, 73, 74, 75, 76, 77, 78, 79, 80, 81, 82, 83, 84, 85] (by decide +kernel) (by decide +kernel)
set_option maxRecDepth 20000 in
theorem gX11_cases_X11_copies : GoodIn wsX11_cases (wsV RX11 352 RX11 yX11_copies wsX11_copies) := goodIn_app (goodIn_of _ (by decide +kernel)) ggX11_cases_X11_copies
set_option maxRecDepth 20000 in
theorem ggX11_cases_X11_casesNow : GoodIn wsX11_cases wsX11_casesNow := goodIn_r _ [14, 15, 9, 16, 17, 18, 4, 19, 6, 20, 21, 22, 23, 24, 25, 26, 27, 28, 29, 30, 31, 32, 33, 34, 35, 36, 37, 38, 39, 40, 41, 42, 43, 44, 45, 46, 47, 48, 49, 50, 51, 52, 53, 54, 55, 56, 57, 58, 59, 60, 61, 62, 63, 64, 65, 66, 67, 68, 69, 70, 71, 72, 73, 74, 75, 76, 77, 78, 79, 80, 81, 82, 83, 84, 85] (by decide +kernel) (by decide +kernel)
set_option maxRecDepth 20000 in
theorem gX11_cases_X11_casesNow : GoodIn wsX11_cases (wsV RX11 385 RX11 yX11_casesNow wsX11_casesNow) := goodIn_app (goodIn_of _ (by decide +kernel)) ggX11_cases_X11_casesNow
theorem dX11_cases_0 : decode cX11_cases 0 = .ok (.aload_n 0, 1) := by decide +kernel
theorem dX11_cases_1 : decode cX11_cases 1 = .ok (.invokevirtual 352, 3) := by decide +kernel
theorem dX11_cases_4 : decode cX11_cases 4 = .ok (.aload_n 0, 1) := by decide +kernel
theorem dX11_cases_5 : decode cX11_cases 5 = .ok (.invokevirtual 385, 3) := by decide +kernel
theorem dX11_cases_8 : decode cX11_cases 8 = .ok (.ireturn, 1) := by decide +kernel
set_option maxRecDepth 20000 in
theorem ggX11_mayBe_X11_mayAt : GoodIn wsX11_mayBe wsX11_mayAt := goodIn_r _ [5, 6, 7, 8, 9, 4, 10, 11, 12, 13, 14, 15, 16, 17, 18, 19, 20, 21, 22, 23, 24, 25, 26, 27, 28, 29, 30, 31, 32, 33, 34, 35, 36, 37, 38, 39, 40, 41, 42, 43, 44, 45, 46, 47, 48, 49, 50, 51, 52, 53, 54, 55, 56, 57, 58, 59, 60, 61, 62, 63, 64, 65, 66, 67, 68, 69, 70] (by decide +kernel) (by decide +kernel)
set_option maxRecDepth 20000 in
theorem gX11_mayBe_X11_mayAt : GoodIn wsX11_mayBe (wsV RX11 309 RX11 yX11_mayAt wsX11_mayAt) := goodIn_app (goodIn_of _ (by decide +kernel)) ggX11_mayBe_X11_mayAt
theorem dX11_mayBe_0 : decode cX11_mayBe 0 = .ok (.aload_n 0, 1) := by decide +kernel
theorem dX11_mayBe_1 : decode cX11_mayBe 1 = .ok (.iload_n 1, 1) := by decide +kernel
theorem dX11_mayBe_2 : decode cX11_mayBe 2 = .ok (.invokevirtual 309, 3) := by decide +kernel
theorem dX11_mayBe_5 : decode cX11_mayBe 5 = .ok (.iload_n 2, 1) := by decide +kernel
theorem dX11_mayBe_6 : decode cX11_mayBe 6 = .ok (.ishr, 1) := by decide +kernel
theorem dX11_mayBe_7 : decode cX11_mayBe 7 = .ok (.iconst 1, 1) := by decide +kernel
theorem dX11_mayBe_8 : decode cX11_mayBe 8 = .ok (.iand, 1) := by decide +kernel
theorem dX11_mayBe_9 : decode cX11_mayBe 9 = .ok (.iconst 1, 1) := by decide +kernel
theorem dX11_mayBe_10 : decode cX11_mayBe 10 = .ok (.if_icmp .ne 7, 3) := by decide +kernel
theorem dX11_mayBe_13 : decode cX11_mayBe 13 = .ok (.iconst 1, 1) := by decide +kernel
theorem dX11_mayBe_14 : decode cX11_mayBe 14 = .ok (.goto 4, 3) := by decide +kernel
theorem dX11_mayBe_17 : decode cX11_mayBe 17 = .ok (.iconst 0, 1) := by decide +kernel
theorem dX11_mayBe_18 : decode cX11_mayBe 18 = .ok (.ireturn, 1) := by decide +kernel
set_option maxRecDepth 20000 in
theorem ggX11_chanceOf_X11_thingAt : GoodIn wsX11_chanceOf wsX11_thingAt := goodIn_r _ [7, 8, 23, 24, 25, 26, 27, 28, 29, 30, 31, 32, 33, 34, 35, 36, 37, 38, 39, 40, 41, 42, 43, 44, 45, 46, 47, 48, 49, 50, 51, 52, 53, 54, 55, 56, 57, 58, 59, 60, 61, 62, 63, 64, 65, 66, 67, 68, 69, 70, 71, 72, 73, 74, 75, 76, 77, 78, 79, 80] (by decide +kernel) (by decide +kernel)
set_option maxRecDepth 20000 in
theorem gX11_chanceOf_X11_thingAt : GoodIn wsX11_chanceOf (wsV RX11 330 RX11 yX11_thingAt wsX11_thingAt) := goodIn_app (goodIn_of _ (by decide +kernel)) ggX11_chanceOf_X11_thingAt
set_option maxRecDepth 20000 in
theorem ggX11_chanceOf_X11_mayBe : GoodIn wsX11_chanceOf wsX11_mayBe := goodIn_r _ [12, 13, 14, 15, 6, 16, 17, 18, 19, 20, 21, 22, 2, 23, 24, 25, 26, 27, 28, 29, 30, 31, 32, 33, 34, 35, 36, 37, 38, 39, 40, 41, 42, 43, 44, 45, 46, 47, 48, 49, 50, 51, 52, 53, 54, 55, 56, 57, 58, 59, 60, 61, 62, 63, 64, 65, 66, 67, 68, 69, 70, 71, 72, 73, 74, 75, 76, 77, 78, 79, 80] (by decide +kernel) (by decide +kernel)
set_option maxRecDepth 20000 in
theorem gX11_chanceOf_X11_mayBe : GoodIn wsX11_chanceOf (wsV RX11 388 RX11 yX11_mayBe wsX11_mayBe) := goodIn_app (goodIn_of _ (by decide +kernel)) ggX11_chanceOf_X11_mayBe
set_option maxRecDepth 20000 in
theorem ggX11_chanceOf_X11_oddsAt : GoodIn wsX11_chanceOf wsX11_oddsAt := goodIn_r _ [21, 22, 2, 23, 24, 25, 26, 27, 28, 29, 30, 31, 32, 33, 34, 35, 36, 37, 38, 39, 40, 41, 42, 43, 44, 45, 46, 47, 48, 49, 50, 51, 52, 53, 54, 55, 56, 57, 58, 59, 60, 61, 62, 63, 64, 65, 66, 67, 68, 69, 70, 71, 72, 73, 74, 75, 76, 77, 78, 79, 80] (by decide +kernel) (by decide +kernel)
set_option maxRecDepth 20000 in
theorem gX11_chanceOf_X11_oddsAt : GoodIn wsX11_chanceOf (wsV RX11 297 RX11 yX11_oddsAt wsX11_oddsAt) := goodIn_app (goodIn_of _ (by decide +kernel)) ggX11_chanceOf_X11_oddsAt
theorem dX11_chanceOf_0 : decode cX11_chanceOf 0 = .ok (.iconst 1, 1) := by decide +kernel
theorem dX11_chanceOf_1 : decode cX11_chanceOf 1 = .ok (.istore_n 2, 1) := by decide +kernel
theorem dX11_chanceOf_2 : decode cX11_chanceOf 2 = .ok (.iconst 0, 1) := by decide +kernel
theorem dX11_chanceOf_3 : decode cX11_chanceOf 3 = .ok (.istore_n 3, 1) := by decide +kernel
theorem dX11_chanceOf_4 : decode cX11_chanceOf 4 = .ok (.iload_n 3, 1) := by decide +kernel
theorem dX11_chanceOf_5 : decode cX11_chanceOf 5 = .ok (.aload_n 0, 1) := by decide +kernel
theorem dX11_chanceOf_6 : decode cX11_chanceOf 6 = .ok (.getfield 40, 3) := by decide +kernel
theorem dX11_chanceOf_9 : decode cX11_chanceOf 9 = .ok (.aload_n 0, 1) := by decide +kernel
theorem dX11_chanceOf_10 : decode cX11_chanceOf 10 = .ok (.getfield 215, 3) := by decide +kernel
theorem dX11_chanceOf_13 : decode cX11_chanceOf 13 = .ok (.iaload, 1) := by decide +kernel
theorem dX11_chanceOf_14 : decode cX11_chanceOf 14 = .ok (.if_icmp .ge 41, 3) := by decide +kernel
theorem dX11_chanceOf_17 : decode cX11_chanceOf 17 = .ok (.aload_n 0, 1) := by decide +kernel
theorem dX11_chanceOf_18 : decode cX11_chanceOf 18 = .ok (.iload_n 1, 1) := by decide +kernel
theorem dX11_chanceOf_19 : decode cX11_chanceOf 19 = .ok (.iload_n 3, 1) := by decide +kernel
theorem dX11_chanceOf_20 : decode cX11_chanceOf 20 = .ok (.invokevirtual 330, 3) := by decide +kernel
theorem dX11_chanceOf_23 : decode cX11_chanceOf 23 = .ok (.istore 4, 2) := by decide +kernel
theorem dX11_chanceOf_25 : decode cX11_chanceOf 25 = .ok (.iload_n 2, 1) := by decide +kernel
theorem dX11_chanceOf_26 : decode cX11_chanceOf 26 = .ok (.aload_n 0, 1) := by decide +kernel
theorem dX11_chanceOf_27 : decode cX11_chanceOf 27 = .ok (.iload_n 3, 1) := by decide +kernel
theorem dX11_chanceOf_28 : decode cX11_chanceOf 28 = .ok (.iload 4, 2) := by decide +kernel
theorem dX11_chanceOf_30 : decode cX11_chanceOf 30 = .ok (.invokevirtual 388, 3) := by decide +kernel
theorem dX11_chanceOf_33 : decode cX11_chanceOf 33 = .ok (.ifCond .eq 13, 3) := by decide +kernel
theorem dX11_chanceOf_36 : decode cX11_chanceOf 36 = .ok (.aload_n 0, 1) := by decide +kernel
theorem dX11_chanceOf_37 : decode cX11_chanceOf 37 = .ok (.iload_n 3, 1) := by decide +kernel
theorem dX11_chanceOf_38 : decode cX11_chanceOf 38 = .ok (.iload 4, 2) := by decide +kernel
theorem dX11_chanceOf_40 : decode cX11_chanceOf 40 = .ok (.invokevirtual 297, 3) := by decide +kernel
theorem dX11_chanceOf_43 : decode cX11_chanceOf 43 = .ok (.goto 4, 3) := by decide +kernel
theorem dX11_chanceOf_46 : decode cX11_chanceOf 46 = .ok (.iconst 0, 1) := by decide +kernel
theorem dX11_chanceOf_47 : decode cX11_chanceOf 47 = .ok (.imul, 1) := by decide +kernel
theorem dX11_chanceOf_48 : decode cX11_chanceOf 48 = .ok (.istore_n 2, 1) := by decide +kernel
theorem dX11_chanceOf_49 : decode cX11_chanceOf 49 = .ok (.iinc 3 1, 3) := by decide +kernel
theorem dX11_chanceOf_52 : decode cX11_chanceOf 52 = .ok (.goto (-48), 3) := by decide +kernel
theorem dX11_chanceOf_55 : decode cX11_chanceOf 55 = .ok (.iload_n 2, 1) := by decide +kernel
theorem dX11_chanceOf_56 : decode cX11_chanceOf 56 = .ok (.ireturn, 1) := by decide +kernel
set_option maxRecDepth 20000 in
theorem ggX11_isCase_X11_thingAt : GoodIn wsX11_isCase wsX11_thingAt := goodIn_r _ [7, 8, 23, 24, 25, 26, 27, 28, 29, 30, 31, 32, 33, 34, 35, 36, 37, 38, 39, 40, 41, 42, 43, 44, 45, 46, 47, 48, 49, 50, 51, 52, 53, 54, 55, 56, 57, 58, 59, 60, 61, 62, 63, 64, 65, 66, 67, 68, 69, 70, 71, 72, 73, 74, 75, 76, 77, 78, 79, 80] (by decide +kernel) (by decide +kernel)
set_option maxRecDepth 20000 in
theorem gX11_isCase_X11_thingAt : GoodIn wsX11_isCase (wsV RX11 330 RX11 yX11_thingAt wsX11_thingAt) := goodIn_app (goodIn_of _ (by decide +kernel)) ggX11_isCase_X11_thingAt
set_option maxRecDepth 20000 in
theorem ggX11_isCase_X11_mayBe : GoodIn wsX11_isCase wsX11_mayBe := goodIn_r _ [12, 13, 14, 15, 6, 16, 17, 18, 19, 20, 21, 22, 2, 23, 24, 25, 26, 27, 28, 29, 30, 31, 32, 33, 34, 35, 36, 37, 38, 39, 40, 41, 42, 43, 44, 45, 46, 47, 48, 49, 50, 51, 52, 53, 54, 55, 56, 57, 58, 59, 60, 61, 62, 63, 64, 65, 66, 67, 68, 69, 70, 71, 72, 73, 74, 75, 76, 77, 78, 79, 80] (by decide +kernel) (by decide +kernel)
set_option maxRecDepth 20000 in
theorem gX11_isCase_X11_mayBe : GoodIn wsX11_isCase (wsV RX11 388 RX11 yX11_mayBe wsX11_mayBe) := goodIn_app (goodIn_of _ (by decide +kernel)) ggX11_isCase_X11_mayBe
theorem dX11_isCase_0 : decode cX11_isCase 0 = .ok (.iconst 0, 1) := by decide +kernel
theorem dX11_isCase_1 : decode cX11_isCase 1 = .ok (.istore_n 2, 1) := by decide +kernel
theorem dX11_isCase_2 : decode cX11_isCase 2 = .ok (.iload_n 2, 1) := by decide +kernel
theorem dX11_isCase_3 : decode cX11_isCase 3 = .ok (.aload_n 0, 1) := by decide +kernel
theorem dX11_isCase_4 : decode cX11_isCase 4 = .ok (.getfield 40, 3) := by decide +kernel
theorem dX11_isCase_7 : decode cX11_isCase 7 = .ok (.aload_n 0, 1) := by decide +kernel
theorem dX11_isCase_8 : decode cX11_isCase 8 = .ok (.getfield 215, 3) := by decide +kernel
theorem dX11_isCase_11 : decode cX11_isCase 11 = .ok (.iaload, 1) := by decide +kernel
theorem dX11_isCase_12 : decode cX11_isCase 12 = .ok (.if_icmp .ge 25, 3) := by decide +kernel
theorem dX11_isCase_15 : decode cX11_isCase 15 = .ok (.aload_n 0, 1) := by decide +kernel
theorem dX11_isCase_16 : decode cX11_isCase 16 = .ok (.iload_n 2, 1) := by decide +kernel
theorem dX11_isCase_17 : decode cX11_isCase 17 = .ok (.aload_n 0, 1) := by decide +kernel
theorem dX11_isCase_18 : decode cX11_isCase 18 = .ok (.iload_n 1, 1) := by decide +kernel
theorem dX11_isCase_19 : decode cX11_isCase 19 = .ok (.iload_n 2, 1) := by decide +kernel
theorem dX11_isCase_20 : decode cX11_isCase 20 = .ok (.invokevirtual 330, 3) := by decide +kernel
theorem dX11_isCase_23 : decode cX11_isCase 23 = .ok (.invokevirtual 388, 3) := by decide +kernel
theorem dX11_isCase_26 : decode cX11_isCase 26 = .ok (.ifCond .ne 5, 3) := by decide +kernel
theorem dX11_isCase_29 : decode cX11_isCase 29 = .ok (.iconst 0, 1) := by decide +kernel
theorem dX11_isCase_30 : decode cX11_isCase 30 = .ok (.ireturn, 1) := by decide +kernel
theorem dX11_isCase_31 : decode cX11_isCase 31 = .ok (.iinc 2 1, 3) := by decide +kernel
theorem dX11_isCase_34 : decode cX11_isCase 34 = .ok (.goto (-32), 3) := by decide +kernel
theorem dX11_isCase_37 : decode cX11_isCase 37 = .ok (.iconst 1, 1) := by decide +kernel
theorem dX11_isCase_38 : decode cX11_isCase 38 = .ok (.ireturn, 1) := by decide +kernel
set_option maxRecDepth 20000 in
theorem ggX11_chance_X11_isGuess : GoodIn wsX11_chance wsX11_isGuess := goodIn_r _ [5, 6, 7, 8, 4, 9, 10, 11, 12, 13, 14, 15, 45, 46, 47, 48, 49, 50, 51, 52, 53, 54, 55, 56, 57, 58, 59, 60, 61, 62, 63, 64, 65, 66, 67, 68, 69, 70, 71, 72, 73, 74, 75, 76, 77, 78, 79, 80, 81, 82, 83, 84, 85, 86, 87, 88, 89, 90, 91, 92, 93, 94, 95, 96, 97, 98, 99, 100, 101, 102] (by decide +kernel) (by decide +kernel)
set_option maxRecDepth 20000 in
theorem gX11_chance_X11_isGuess : GoodIn wsX11_chance (wsV RX11 367 RX11 yX11_isGuess wsX11_isGuess) := goodIn_app (goodIn_of _ (by decide +kernel)) ggX11_chance_X11_isGuess
set_option maxRecDepth 20000 in
theorem ggX11_chance_X11_copies : GoodIn wsX11_chance wsX11_copies := goodIn_r _ [19, 20, 21, 22, 12, 23, 45, 46, 47, 48, 49, 50, 51, 52, 53, 54, 55, 56, 57, 58, 59, 60, 61, 62, 63, 64, 65, 66, 67, 68, 69, 70, 71, 72, 73, 74, 75, 76, 77, 78, 79, 80, 81, 82, 83, 84, 85, 86, 87, 88, 89, 90, 91, 92, 93, 94, 95, 96, 97, 98, 99, 100, 101, 102] (by decide +kernel) (by decide +kernel)
set_option maxRecDepth 20000 in
theorem gX11_chance_X11_copies : GoodIn wsX11_chance (wsV RX11 352 RX11 yX11_copies wsX11_copies) := goodIn_app (goodIn_of _ (by decide +kernel)) ggX11_chance_X11_copies
set_option maxRecDepth 20000 in
theorem ggX11_chance_X11_chanceOf : GoodIn wsX11_chance wsX11_chanceOf := goodIn_r _ [27, 11, 12, 28, 29, 30, 4, 31, 10, 32, 33, 34, 35, 36, 37, 38, 39, 20, 40, 41, 42, 43, 44, 45, 46, 47, 48, 49, 50, 51, 52, 53, 54, 55, 56, 57, 58, 59, 60, 61, 62, 63, 64, 65, 66, 67, 68, 69, 70, 71, 72, 73, 74, 75, 76, 77, 78, 79, 80, 81, 82, 83, 84, 85, 86, 87, 88, 89, 90, 91, 92, 93, 94, 95, 96, 97, 98, 99, 100, 101, 102] (by decide +kernel) (by decide +kernel)
set_option maxRecDepth 20000 in
theorem gX11_chance_X11_chanceOf : GoodIn wsX11_chance (wsV RX11 392 RX11 yX11_chanceOf wsX11_chanceOf) := goodIn_app (goodIn_of _ (by decide +kernel)) ggX11_chance_X11_chanceOf
theorem dX11_chance_0 : decode cX11_chance 0 = .ok (.aload_n 0, 1) := by decide +kernel
theorem dX11_chance_1 : decode cX11_chance 1 = .ok (.iload_n 1, 1) := by decide +kernel
theorem dX11_chance_2 : decode cX11_chance 2 = .ok (.invokevirtual 367, 3) := by decide +kernel
theorem dX11_chance_5 : decode cX11_chance 5 = .ok (.ifCond .ne 5, 3) := by decide +kernel
theorem dX11_chance_8 : decode cX11_chance 8 = .ok (.iconst (-1), 1) := by decide +kernel
theorem dX11_chance_9 : decode cX11_chance 9 = .ok (.ireturn, 1) := by decide +kernel
theorem dX11_chance_10 : decode cX11_chance 10 = .ok (.aload_n 0, 1) := by decide +kernel
theorem dX11_chance_11 : decode cX11_chance 11 = .ok (.invokevirtual 352, 3) := by decide +kernel
theorem dX11_chance_14 : decode cX11_chance 14 = .ok (.aload_n 0, 1) := by decide +kernel
theorem dX11_chance_15 : decode cX11_chance 15 = .ok (.iload_n 1, 1) := by decide +kernel
theorem dX11_chance_16 : decode cX11_chance 16 = .ok (.invokevirtual 392, 3) := by decide +kernel
theorem dX11_chance_19 : decode cX11_chance 19 = .ok (.ireturn, 1) := by decide +kernel
set_option maxRecDepth 20000 in
theorem ggX11_sumAt_X11_mayBe : GoodIn wsX11_sumAt wsX11_mayBe := goodIn_r _ [5, 6, 7, 8, 4, 9, 10, 11, 12, 13, 14, 15, 16, 17, 18, 19, 20, 21, 22, 23, 24, 25, 26, 27, 28, 29, 30, 31, 32, 33, 34, 35, 36, 37, 38, 39, 40, 41, 42, 43, 44, 45, 46, 47, 48, 49, 50, 51, 52, 53, 54, 55, 56, 57, 58, 59, 60, 61, 62, 63, 64, 65, 66, 67, 68, 69, 70, 71, 72, 73, 74] (by decide +kernel) (by decide +kernel)
set_option maxRecDepth 20000 in
theorem gX11_sumAt_X11_mayBe : GoodIn wsX11_sumAt (wsV RX11 388 RX11 yX11_mayBe wsX11_mayBe) := goodIn_app (goodIn_of _ (by decide +kernel)) ggX11_sumAt_X11_mayBe
set_option maxRecDepth 20000 in
theorem ggX11_sumAt_X11_oddsAt : GoodIn wsX11_sumAt wsX11_oddsAt := goodIn_r _ [14, 15, 16, 17, 18, 19, 20, 21, 22, 23, 24, 25, 26, 27, 28, 29, 30, 31, 32, 33, 34, 35, 36, 37, 38, 39, 40, 41, 42, 43, 44, 45, 46, 47, 48, 49, 50, 51, 52, 53, 54, 55, 56, 57, 58, 59, 60, 61, 62, 63, 64, 65, 66, 67, 68, 69, 70, 71, 72, 73, 74] (by decide +kernel) (by decide +kernel)
set_option maxRecDepth 20000 in
theorem gX11_sumAt_X11_oddsAt : GoodIn wsX11_sumAt (wsV RX11 297 RX11 yX11_oddsAt wsX11_oddsAt) := goodIn_app (goodIn_of _ (by decide +kernel)) ggX11_sumAt_X11_oddsAt
theorem dX11_sumAt_0 : decode cX11_sumAt 0 = .ok (.iconst 0, 1) := by decide +kernel
theorem dX11_sumAt_1 : decode cX11_sumAt 1 = .ok (.istore_n 2, 1) := by decide +kernel
theorem dX11_sumAt_2 : decode cX11_sumAt 2 = .ok (.iconst 0, 1) := by decide +kernel
theorem dX11_sumAt_3 : decode cX11_sumAt 3 = .ok (.istore_n 3, 1) := by decide +kernel
theorem dX11_sumAt_4 : decode cX11_sumAt 4 = .ok (.iload_n 3, 1) := by decide +kernel
theorem dX11_sumAt_5 : decode cX11_sumAt 5 = .ok (.bipush 6, 2) := by decide +kernel
theorem dX11_sumAt_7 : decode cX11_sumAt 7 = .ok (.if_icmp .ge 27, 3) := by decide +kernel
theorem dX11_sumAt_10 : decode cX11_sumAt 10 = .ok (.aload_n 0, 1) := by decide +kernel
theorem dX11_sumAt_11 : decode cX11_sumAt 11 = .ok (.iload_n 1, 1) := by decide +kernel
theorem dX11_sumAt_12 : decode cX11_sumAt 12 = .ok (.iload_n 3, 1) := by decide +kernel
theorem dX11_sumAt_13 : decode cX11_sumAt 13 = .ok (.invokevirtual 388, 3) := by decide +kernel
theorem dX11_sumAt_16 : decode cX11_sumAt 16 = .ok (.ifCond .eq 12, 3) := by decide +kernel
theorem dX11_sumAt_19 : decode cX11_sumAt 19 = .ok (.iload_n 2, 1) := by decide +kernel
theorem dX11_sumAt_20 : decode cX11_sumAt 20 = .ok (.aload_n 0, 1) := by decide +kernel
theorem dX11_sumAt_21 : decode cX11_sumAt 21 = .ok (.iload_n 1, 1) := by decide +kernel
theorem dX11_sumAt_22 : decode cX11_sumAt 22 = .ok (.iload_n 3, 1) := by decide +kernel
theorem dX11_sumAt_23 : decode cX11_sumAt 23 = .ok (.invokevirtual 297, 3) := by decide +kernel
theorem dX11_sumAt_26 : decode cX11_sumAt 26 = .ok (.iadd, 1) := by decide +kernel
theorem dX11_sumAt_27 : decode cX11_sumAt 27 = .ok (.istore_n 2, 1) := by decide +kernel
theorem dX11_sumAt_28 : decode cX11_sumAt 28 = .ok (.iinc 3 1, 3) := by decide +kernel
theorem dX11_sumAt_31 : decode cX11_sumAt 31 = .ok (.goto (-27), 3) := by decide +kernel
theorem dX11_sumAt_34 : decode cX11_sumAt 34 = .ok (.iload_n 2, 1) := by decide +kernel
theorem dX11_sumAt_35 : decode cX11_sumAt 35 = .ok (.ireturn, 1) := by decide +kernel
set_option maxRecDepth 20000 in
theorem ggX11_all_X11_copies : GoodIn wsX11_all wsX11_copies := goodIn_r _ [7, 8, 9, 10, 2, 11, 29, 30, 31, 32, 33, 34, 35, 36, 37, 38, 39, 40, 41, 42, 43, 44, 45, 46, 47, 48, 49, 50, 51, 52, 53, 54, 55, 56, 57, 58, 59, 60, 61, 62, 63, 64, 65, 66, 67, 68, 69, 70, 71, 72, 73, 74, 75, 76, 77, 78, 79, 80, 81, 82, 83, 84, 85, 86] (by decide +kernel) (by decide +kernel)
set_option maxRecDepth 20000 in
theorem gX11_all_X11_copies : GoodIn wsX11_all (wsV RX11 352 RX11 yX11_copies wsX11_copies) := goodIn_app (goodIn_of _ (by decide +kernel)) ggX11_all_X11_copies
set_option maxRecDepth 20000 in
theorem ggX11_all_X11_sumAt : GoodIn wsX11_all wsX11_sumAt := goodIn_r _ [15, 16, 17, 18, 6, 19, 20, 21, 22, 23, 8, 24, 25, 26, 27, 28, 2, 29, 30, 31, 32, 33, 34, 35, 36, 37, 38, 39, 40, 41, 42, 43, 44, 45, 46, 47, 48, 49, 50, 51, 52, 53, 54, 55, 56, 57, 58, 59, 60, 61, 62, 63, 64, 65, 66, 67, 68, 69, 70, 71, 72, 73, 74, 75, 76, 77, 78, 79, 80, 81, 82, 83, 84, 85, 86] (by decide +kernel) (by decide +kernel)
set_option maxRecDepth 20000 in
theorem gX11_all_X11_sumAt : GoodIn wsX11_all (wsV RX11 395 RX11 yX11_sumAt wsX11_sumAt) := goodIn_app (goodIn_of _ (by decide +kernel)) ggX11_all_X11_sumAt
theorem dX11_all_0 : decode cX11_all 0 = .ok (.aload_n 0, 1) := by decide +kernel
theorem dX11_all_1 : decode cX11_all 1 = .ok (.invokevirtual 352, 3) := by decide +kernel
theorem dX11_all_4 : decode cX11_all 4 = .ok (.iconst 1, 1) := by decide +kernel
theorem dX11_all_5 : decode cX11_all 5 = .ok (.istore_n 1, 1) := by decide +kernel
theorem dX11_all_6 : decode cX11_all 6 = .ok (.iconst 0, 1) := by decide +kernel
theorem dX11_all_7 : decode cX11_all 7 = .ok (.istore_n 2, 1) := by decide +kernel
theorem dX11_all_8 : decode cX11_all 8 = .ok (.iload_n 2, 1) := by decide +kernel
theorem dX11_all_9 : decode cX11_all 9 = .ok (.aload_n 0, 1) := by decide +kernel
theorem dX11_all_10 : decode cX11_all 10 = .ok (.getfield 40, 3) := by decide +kernel
theorem dX11_all_13 : decode cX11_all 13 = .ok (.aload_n 0, 1) := by decide +kernel
theorem dX11_all_14 : decode cX11_all 14 = .ok (.getfield 215, 3) := by decide +kernel
theorem dX11_all_17 : decode cX11_all 17 = .ok (.iaload, 1) := by decide +kernel
theorem dX11_all_18 : decode cX11_all 18 = .ok (.if_icmp .ge 17, 3) := by decide +kernel
theorem dX11_all_21 : decode cX11_all 21 = .ok (.iload_n 1, 1) := by decide +kernel
theorem dX11_all_22 : decode cX11_all 22 = .ok (.aload_n 0, 1) := by decide +kernel
theorem dX11_all_23 : decode cX11_all 23 = .ok (.iload_n 2, 1) := by decide +kernel
theorem dX11_all_24 : decode cX11_all 24 = .ok (.invokevirtual 395, 3) := by decide +kernel
theorem dX11_all_27 : decode cX11_all 27 = .ok (.imul, 1) := by decide +kernel
theorem dX11_all_28 : decode cX11_all 28 = .ok (.istore_n 1, 1) := by decide +kernel
theorem dX11_all_29 : decode cX11_all 29 = .ok (.iinc 2 1, 3) := by decide +kernel
theorem dX11_all_32 : decode cX11_all 32 = .ok (.goto (-24), 3) := by decide +kernel
theorem dX11_all_35 : decode cX11_all 35 = .ok (.iload_n 1, 1) := by decide +kernel
theorem dX11_all_36 : decode cX11_all 36 = .ok (.ireturn, 1) := by decide +kernel
set_option maxRecDepth 20000 in
theorem ggX11_bestFor_X11_mayBe : GoodIn wsX11_bestFor wsX11_mayBe := goodIn_r _ [8, 9, 10, 11, 7, 12, 13, 14, 15, 16, 17, 18, 2, 63, 64, 65, 66, 67, 68, 69, 70, 71, 72, 73, 74, 75, 76, 77, 78, 79, 80, 81, 82, 83, 84, 85, 86, 87, 88, 89, 90, 91, 92, 93, 94, 95, 96, 97, 98, 99, 100, 101, 102, 103, 104, 105, 106, 107, 108, 109, 110, 111, 112, 113, 114, 115, 116, 117, 118, 119, 120] (by decide +kernel) (by decide +kernel)
set_option maxRecDepth 20000 in
theorem gX11_bestFor_X11_mayBe : GoodIn wsX11_bestFor (wsV RX11 388 RX11 yX11_mayBe wsX11_mayBe) := goodIn_app (goodIn_of _ (by decide +kernel)) ggX11_bestFor_X11_mayBe
set_option maxRecDepth 20000 in
theorem ggX11_bestFor_X11_doesBear : GoodIn wsX11_bestFor wsX11_doesBear := goodIn_r _ [22, 14, 15, 16, 7, 17, 18, 2, 23, 24, 25, 26, 27, 28, 29, 30, 31, 13, 32, 33, 34, 35, 36, 37, 9, 10, 11, 12, 38, 39, 40, 41, 42, 43, 44, 45, 46, 47, 48, 49, 50, 51, 52, 53, 54, 55, 56, 57, 58, 59, 60, 61, 62, 63, 64, 65, 66, 67, 68, 69, 70, 71, 72, 73, 74, 75, 76, 77, 78, 79, 80, 81, 82, 83, 84, 85, 86, 87, 88, 89, 90, 91, 92, 93, 94, 95, 96, 97, 98, 99, 100, 101, 102, 103, 104, 105, 106, 107, 108, 109, 110, 111, 112, 113, 114, 115, 116, 117, 118, 119, 120] (by decide +kernel) (by decide +kernel)
set_option maxRecDepth 20000 in
theorem gX11_bestFor_X11_doesBear : GoodIn wsX11_bestFor (wsV RX11 333 RX11 yX11_doesBear wsX11_doesBear) := goodIn_app (goodIn_of _ (by decide +kernel)) ggX11_bestFor_X11_doesBear
set_option maxRecDepth 20000 in
theorem ggX11_bestFor_X11_oddsAt : GoodIn wsX11_bestFor wsX11_oddsAt := goodIn_r _ [17, 18, 2, 63, 64, 65, 66, 67, 68, 69, 70, 71, 72, 73, 74, 75, 76, 77, 78, 79, 80, 81, 82, 83, 84, 85, 86, 87, 88, 89, 90, 91, 92, 93, 94, 95, 96, 97, 98, 99, 100, 101, 102, 103, 104, 105, 106, 107, 108, 109, 110, 111, 112, 113, 114, 115, 116, 117, 118, 119, 120] (by decide +kernel) (by decide +kernel)
set_option maxRecDepth 20000 in
theorem gX11_bestFor_X11_oddsAt : GoodIn wsX11_bestFor (wsV RX11 297 RX11 yX11_oddsAt wsX11_oddsAt) := goodIn_app (goodIn_of _ (by decide +kernel)) ggX11_bestFor_X11_oddsAt
theorem dX11_bestFor_0 : decode cX11_bestFor 0 = .ok (.iconst 0, 1) := by decide +kernel
theorem dX11_bestFor_1 : decode cX11_bestFor 1 = .ok (.istore_n 2, 1) := by decide +kernel
theorem dX11_bestFor_2 : decode cX11_bestFor 2 = .ok (.iconst 0, 1) := by decide +kernel
theorem dX11_bestFor_3 : decode cX11_bestFor 3 = .ok (.istore_n 3, 1) := by decide +kernel
theorem dX11_bestFor_4 : decode cX11_bestFor 4 = .ok (.iload_n 3, 1) := by decide +kernel
theorem dX11_bestFor_5 : decode cX11_bestFor 5 = .ok (.aload_n 0, 1) := by decide +kernel
theorem dX11_bestFor_6 : decode cX11_bestFor 6 = .ok (.getfield 40, 3) := by decide +kernel
theorem dX11_bestFor_9 : decode cX11_bestFor 9 = .ok (.aload_n 0, 1) := by decide +kernel
theorem dX11_bestFor_10 : decode cX11_bestFor 10 = .ok (.getfield 215, 3) := by decide +kernel
theorem dX11_bestFor_13 : decode cX11_bestFor 13 = .ok (.iaload, 1) := by decide +kernel
theorem dX11_bestFor_14 : decode cX11_bestFor 14 = .ok (.if_icmp .ge 101, 3) := by decide +kernel
theorem dX11_bestFor_17 : decode cX11_bestFor 17 = .ok (.bipush (-2), 2) := by decide +kernel
theorem dX11_bestFor_19 : decode cX11_bestFor 19 = .ok (.istore 4, 2) := by decide +kernel
theorem dX11_bestFor_21 : decode cX11_bestFor 21 = .ok (.iconst 0, 1) := by decide +kernel
theorem dX11_bestFor_22 : decode cX11_bestFor 22 = .ok (.istore 5, 2) := by decide +kernel
theorem dX11_bestFor_24 : decode cX11_bestFor 24 = .ok (.iload 5, 2) := by decide +kernel
theorem dX11_bestFor_26 : decode cX11_bestFor 26 = .ok (.bipush 6, 2) := by decide +kernel
theorem dX11_bestFor_28 : decode cX11_bestFor 28 = .ok (.if_icmp .ge 61, 3) := by decide +kernel
theorem dX11_bestFor_31 : decode cX11_bestFor 31 = .ok (.aload_n 0, 1) := by decide +kernel
theorem dX11_bestFor_32 : decode cX11_bestFor 32 = .ok (.iload_n 3, 1) := by decide +kernel
theorem dX11_bestFor_33 : decode cX11_bestFor 33 = .ok (.iload 5, 2) := by decide +kernel
theorem dX11_bestFor_35 : decode cX11_bestFor 35 = .ok (.invokevirtual 388, 3) := by decide +kernel
theorem dX11_bestFor_38 : decode cX11_bestFor 38 = .ok (.ifCond .eq 45, 3) := by decide +kernel
theorem dX11_bestFor_41 : decode cX11_bestFor 41 = .ok (.iload_n 1, 1) := by decide +kernel
theorem dX11_bestFor_42 : decode cX11_bestFor 42 = .ok (.iconst (-1), 1) := by decide +kernel
theorem dX11_bestFor_43 : decode cX11_bestFor 43 = .ok (.if_icmp .eq 14, 3) := by decide +kernel
theorem dX11_bestFor_46 : decode cX11_bestFor 46 = .ok (.aload_n 0, 1) := by decide +kernel
theorem dX11_bestFor_47 : decode cX11_bestFor 47 = .ok (.iload_n 1, 1) := by decide +kernel
theorem dX11_bestFor_48 : decode cX11_bestFor 48 = .ok (.iload_n 3, 1) := by decide +kernel
theorem dX11_bestFor_49 : decode cX11_bestFor 49 = .ok (.iload 5, 2) := by decide +kernel
theorem dX11_bestFor_51 : decode cX11_bestFor 51 = .ok (.invokevirtual 333, 3) := by decide +kernel
theorem dX11_bestFor_54 : decode cX11_bestFor 54 = .ok (.ifCond .eq 29, 3) := by decide +kernel
theorem dX11_bestFor_57 : decode cX11_bestFor 57 = .ok (.iload 4, 2) := by decide +kernel
theorem dX11_bestFor_59 : decode cX11_bestFor 59 = .ok (.ifCond .lt 20, 3) := by decide +kernel
theorem dX11_bestFor_62 : decode cX11_bestFor 62 = .ok (.aload_n 0, 1) := by decide +kernel
theorem dX11_bestFor_63 : decode cX11_bestFor 63 = .ok (.iload_n 3, 1) := by decide +kernel
theorem dX11_bestFor_64 : decode cX11_bestFor 64 = .ok (.iload 5, 2) := by decide +kernel
theorem dX11_bestFor_66 : decode cX11_bestFor 66 = .ok (.invokevirtual 297, 3) := by decide +kernel
theorem dX11_bestFor_69 : decode cX11_bestFor 69 = .ok (.aload_n 0, 1) := by decide +kernel
theorem dX11_bestFor_70 : decode cX11_bestFor 70 = .ok (.iload_n 3, 1) := by decide +kernel
theorem dX11_bestFor_71 : decode cX11_bestFor 71 = .ok (.iload 4, 2) := by decide +kernel
theorem dX11_bestFor_73 : decode cX11_bestFor 73 = .ok (.invokevirtual 297, 3) := by decide +kernel
theorem dX11_bestFor_76 : decode cX11_bestFor 76 = .ok (.if_icmp .le 7, 3) := by decide +kernel
theorem dX11_bestFor_79 : decode cX11_bestFor 79 = .ok (.iload 5, 2) := by decide +kernel
theorem dX11_bestFor_81 : decode cX11_bestFor 81 = .ok (.istore 4, 2) := by decide +kernel
theorem dX11_bestFor_83 : decode cX11_bestFor 83 = .ok (.iinc 5 1, 3) := by decide +kernel
theorem dX11_bestFor_86 : decode cX11_bestFor 86 = .ok (.goto (-62), 3) := by decide +kernel
theorem dX11_bestFor_89 : decode cX11_bestFor 89 = .ok (.iload 4, 2) := by decide +kernel
theorem dX11_bestFor_91 : decode cX11_bestFor 91 = .ok (.ifCond .ge 6, 3) := by decide +kernel
theorem dX11_bestFor_94 : decode cX11_bestFor 94 = .ok (.bipush (-2), 2) := by decide +kernel
theorem dX11_bestFor_96 : decode cX11_bestFor 96 = .ok (.ireturn, 1) := by decide +kernel
theorem dX11_bestFor_97 : decode cX11_bestFor 97 = .ok (.iload_n 2, 1) := by decide +kernel
theorem dX11_bestFor_98 : decode cX11_bestFor 98 = .ok (.aload_n 0, 1) := by decide +kernel
theorem dX11_bestFor_99 : decode cX11_bestFor 99 = .ok (.getfield 104, 3) := by decide +kernel
theorem dX11_bestFor_102 : decode cX11_bestFor 102 = .ok (.iload_n 3, 1) := by decide +kernel
theorem dX11_bestFor_103 : decode cX11_bestFor 103 = .ok (.iaload, 1) := by decide +kernel
theorem dX11_bestFor_104 : decode cX11_bestFor 104 = .ok (.iload 4, 2) := by decide +kernel
theorem dX11_bestFor_106 : decode cX11_bestFor 106 = .ok (.imul, 1) := by decide +kernel
theorem dX11_bestFor_107 : decode cX11_bestFor 107 = .ok (.iadd, 1) := by decide +kernel
theorem dX11_bestFor_108 : decode cX11_bestFor 108 = .ok (.istore_n 2, 1) := by decide +kernel
theorem dX11_bestFor_109 : decode cX11_bestFor 109 = .ok (.iinc 3 1, 3) := by decide +kernel
theorem dX11_bestFor_112 : decode cX11_bestFor 112 = .ok (.goto (-108), 3) := by decide +kernel
theorem dX11_bestFor_115 : decode cX11_bestFor 115 = .ok (.iload_n 2, 1) := by decide +kernel
theorem dX11_bestFor_116 : decode cX11_bestFor 116 = .ok (.ireturn, 1) := by decide +kernel
set_option maxHeartbeats 4000000 in
set_option maxRecDepth 100000 in
theorem br_cases {l : Launch} {dC : Nat → ClassId} {dI : Nat → Nat → Nat} {cB cI cJ cZ cS : ClassId} {h : Nat} {a : Nat → Nat} {as : List Value} {r : Int32} {s' : RS} (s : RS) (hB : r_cases s = some (r, s')) : BlkI l yX11_cases wsX11_cases ({ frames := 3, cells := 0, slots := 0, locals := 67 }) cX11_cases 1 (some .int) (dC, dI) (tysA cB cI cJ cZ cS) as 0 (mwS cB cI cJ cZ h a s) [(0, .ref h)] [] (fun x u => x = r ∧ u = (mwS cB cI cJ cZ h a s')) := by
  intro p e s0 m below meth c A E H locs ls hP hD hS hl
  obtain ⟨C, hr, hlocks, hA, hK, hN⟩ := id E
  obtain ⟨hx, hb, hml, hown, hts⟩ := id C
  unfold r_cases at hB
  refine lv_aload_n hx hb dX11_cases_0 rfl (lv_at hl 0 rfl) ?_
  obtain ⟨s1, hc, hB⟩ := bindP_inv hB
  refine q_govF (va_runV (As := []) (rest := []) C (cr_copies hc _) (cwV 0 hts gX11_cases_X11_copies rfl rfl rfl (by decide +kernel) ⟨Nat.le_of_ble_eq_true rfl, Nat.le_of_ble_eq_true rfl⟩) (q_preV hK hP (ci := 11) (q0 := 0) rfl rfl rfl (q_preF hN hK hP hD)) rfl rfl hl.1 rfl (lv_room (Nat.le_of_ble_eq_true rfl)) dX11_cases_1 ⟨Nat.le_of_ble_eq_true rfl, Nat.le_of_ble_eq_true rfl⟩) hD hS hA (fun w1 H locs hw hP hD hS => ?_)
  subst hw
  refine lv_aload_n hx hb dX11_cases_4 rfl (lv_at hl 0 rfl) ?_
  obtain ⟨q_, s2, hc, hB⟩ := bindI_inv hB
  refine q_goiF (va_runV (As := []) (rest := []) C (cr_casesNow hc _) (cwV 0 hts gX11_cases_X11_casesNow rfl rfl rfl (by decide +kernel) ⟨Nat.le_of_ble_eq_true rfl, Nat.le_of_ble_eq_true rfl⟩) (q_preV hK hP (ci := 11) (q0 := 0) rfl rfl rfl (q_preF hN hK hP hD)) rfl rfl hl.1 rfl (lv_room (Nat.le_of_ble_eq_true rfl)) dX11_cases_5 ⟨Nat.le_of_ble_eq_true rfl, Nat.le_of_ble_eq_true rfl⟩) hD hS hA (fun r3 w1 H locs hw hP hD hS => ?_)
  obtain ⟨hq_, hw⟩ := hw; subst hw; subst hq_
  exact q_iret C hr hlocks hK hP hD hS (Nat.le_of_ble_eq_true rfl) (Nat.le_of_ble_eq_true rfl) dX11_cases_8 (by cases hB; exact ⟨rfl, rfl⟩)
theorem cr_cases {l : Launch} {dC : Nat → ClassId} {dI : Nat → Nat → Nat} {cB cI cJ cZ cS : ClassId} {h : Nat} {a : Nat → Nat} {r : Int32} {s' : RS} {s : RS} (hB : r_cases s = some (r, s')) : CI l yX11_cases wsX11_cases ({ frames := 3, cells := 0, slots := 0, locals := 67 }) (dC, dI) (tysA cB cI cJ cZ cS) (mwS cB cI cJ cZ h a s) [.ref h] (fun x u => x = r ∧ u = (mwS cB cI cJ cZ h a s')) :=
  CI_of (cc := cX11_cases) (maxL := 1) (ret := (some .int)) (by decide) rfl (Nat.le_of_ble_eq_true rfl) (br_cases _ hB)
set_option maxHeartbeats 4000000 in
set_option maxRecDepth 100000 in
theorem br_mayBe {l : Launch} {dC : Nat → ClassId} {dI : Nat → Nat → Nat} {cB cI cJ cZ cS : ClassId} {h : Nat} {a : Nat → Nat} {as : List Value} {r : Int32} {s' : RS} (s : RS) (x1 : Int32) (x2 : Int32) (hB : r_mayBe s x1 x2 = some (r, s')) : BlkI l yX11_mayBe wsX11_mayBe ({ frames := 2, cells := 0, slots := 0, locals := 45 }) cX11_mayBe 3 (some .boolean) (dC, dI) (tysA cB cI cJ cZ cS) as 0 (mwS cB cI cJ cZ h a s) [(0, .ref h), (1, .int x1), (2, .int x2)] [] (fun x u => x = r ∧ u = (mwS cB cI cJ cZ h a s')) := by
  intro p e s0 m below meth c A E H locs ls hP hD hS hl
  obtain ⟨C, hr, hlocks, hA, hK, hN⟩ := id E
  obtain ⟨hx, hb, hml, hown, hts⟩ := id C
  unfold r_mayBe at hB
  refine lv_aload_n hx hb dX11_mayBe_0 rfl (lv_at hl 0 rfl) ?_
  refine lv_iload_n hx hb dX11_mayBe_1 rfl (lv_at hl 1 rfl) ?_
  obtain ⟨q_, s1, hc, hB⟩ := bindI_inv hB
  refine q_goiF (va_runV (As := [.int x1]) (rest := []) C (cr_mayAt hc _) (cwV 1 hts gX11_mayBe_X11_mayAt rfl rfl rfl (by decide +kernel) ⟨Nat.le_of_ble_eq_true rfl, Nat.le_of_ble_eq_true rfl⟩) (q_preV hK hP (ci := 11) (q0 := 0) rfl rfl rfl (q_preF hN hK hP hD)) rfl rfl hl.1 rfl (lv_room (Nat.le_of_ble_eq_true rfl)) dX11_mayBe_2 ⟨Nat.le_of_ble_eq_true rfl, Nat.le_of_ble_eq_true rfl⟩) hD hS hA (fun r2 w1 H locs hw hP hD hS => ?_)
  obtain ⟨hq_, hw⟩ := hw; subst hw; subst hq_
  refine lv_iload_n hx hb dX11_mayBe_5 rfl (lv_at hl 2 rfl) ?_
  refine lv_ishr hx hb dX11_mayBe_6 ?_
  refine lv_iconst (v := 1) hx hb dX11_mayBe_7 (by decide) ?_
  refine lv_iand hx hb dX11_mayBe_8 ?_
  refine lv_iconst (v := 1) hx hb dX11_mayBe_9 (by decide) ?_
  refine lv_icmp_ne (tgt := 17) hx hb dX11_mayBe_10 (by decide) (fun c3 => ?_) (fun c3 => ?_)
  · have hB := if_n hB c3
    refine lv_iconst (v := 0) hx hb dX11_mayBe_17 (by decide) ?_
    exact q_zret C hr hlocks (Or.inl rfl) hK hP hD hS (Nat.le_of_ble_eq_true rfl) (Nat.le_of_ble_eq_true rfl) dX11_mayBe_18 (by cases hB; exact ⟨rfl, rfl⟩)
  · have hB := if_p hB c3
    refine lv_iconst (v := 1) hx hb dX11_mayBe_13 (by decide) ?_
    refine lv_goto (tgt := 18) hx hb dX11_mayBe_14 (by decide) ?_
    exact q_zret C hr hlocks (Or.inr rfl) hK hP hD hS (Nat.le_of_ble_eq_true rfl) (Nat.le_of_ble_eq_true rfl) dX11_mayBe_18 (by cases hB; exact ⟨rfl, rfl⟩)
theorem cr_mayBe {l : Launch} {dC : Nat → ClassId} {dI : Nat → Nat → Nat} {cB cI cJ cZ cS : ClassId} {h : Nat} {a : Nat → Nat} {r : Int32} {s' : RS} {s : RS} {x1 : Int32} {x2 : Int32} (hB : r_mayBe s x1 x2 = some (r, s')) : CI l yX11_mayBe wsX11_mayBe ({ frames := 2, cells := 0, slots := 0, locals := 45 }) (dC, dI) (tysA cB cI cJ cZ cS) (mwS cB cI cJ cZ h a s) [.ref h, .int x1, .int x2] (fun x u => x = r ∧ u = (mwS cB cI cJ cZ h a s')) :=
  CI_of (cc := cX11_mayBe) (maxL := 3) (ret := (some .boolean)) (by decide) rfl (Nat.le_of_ble_eq_true rfl) (br_mayBe _ _ _ hB)
theorem LX11_chanceOf_215 : Cond.fieldLink RX11 215 "GuessFerryModel" "live" "I" ∈ wsX11_chanceOf := by decide +kernel
theorem LX11_chanceOf_40 : Cond.fieldLink RX11 40 "GuessFerryModel" "waves" "[I" ∈ wsX11_chanceOf := by decide +kernel
theorem inX11_chanceOf_X11 : ∀ w ∈ u_ws RX11 TX11 58, w ∈ wsX11_chanceOf := fun _ h => List.mem_cons_of_mem _ (List.mem_append_right _ h)
set_option maxHeartbeats 4000000 in
set_option maxRecDepth 100000 in
theorem br_chanceOf_47 {l : Launch} {dC : Nat → ClassId} {dI : Nat → Nat → Nat} {cB cI cJ cZ cS : ClassId} {h : Nat} {a : Nat → Nat} {as : List Value} {r : Int32} {s' : RS} {k4 : RS → Int32 → Int32 → Int32 → Option (Int32 × RS)} (hk4 : ∀ (s : RS) (x1 : Int32) (x2 : Int32) (x3 : Int32), k4 s x1 x2 x3 = some (r, s') → BlkI l yX11_chanceOf wsX11_chanceOf ({ frames := 3, cells := 0, slots := 0, locals := 67 }) cX11_chanceOf 5 (some .int) (dC, dI) (tysA cB cI cJ cZ cS) as 4 (mwS cB cI cJ cZ h a s) [(0, .ref h), (1, .int x1), (2, .int x2), (3, .int x3)] [] (fun x u => x = r ∧ u = (mwS cB cI cJ cZ h a s'))) (s : RS) (x1 : Int32) (x3 : Int32) (t0 : Int32) (t1 : Int32) (hB : r_chanceOf_47 k4 s x1 x3 t0 t1 = some (r, s')) : BlkI l yX11_chanceOf wsX11_chanceOf ({ frames := 3, cells := 0, slots := 0, locals := 67 }) cX11_chanceOf 5 (some .int) (dC, dI) (tysA cB cI cJ cZ cS) as 47 (mwS cB cI cJ cZ h a s) [(0, .ref h), (1, .int x1), (3, .int x3)] [.int t0, .int t1] (fun x u => x = r ∧ u = (mwS cB cI cJ cZ h a s')) := by
  intro p e s0 m below meth c A E H locs ls hP hD hS hl
  obtain ⟨C, hr, hlocks, hA, hK, hN⟩ := id E
  obtain ⟨hx, hb, hml, hown, hts⟩ := id C
  unfold r_chanceOf_47 at hB
  refine lv_imul hx hb dX11_chanceOf_47 ?_
  refine lv_istore_n (lv' := [(2, .int (t1 * t0)), (0, .ref h), (1, .int x1), (3, .int x3)]) hx hb dX11_chanceOf_48 rfl hl (by decide) rfl (fun ls hl => ?_)
  refine lv_iinc (v := (x3 + 1)) (lv' := [(3, .int (x3 + 1)), (2, .int (t1 * t0)), (0, .ref h), (1, .int x1)]) hx hb dX11_chanceOf_49 hl (k := 3) rfl (rfl) (by decide) rfl (fun ls hl => ?_)
  refine lv_goto (tgt := 4) hx hb dX11_chanceOf_52 (by decide) ?_
  exact hk4 _ _ _ _ hB p e s0 m below meth c A E H locs ls hP hD hS (lv_sub hl [2, 3, 1, 0] rfl)
set_option maxHeartbeats 4000000 in
set_option maxRecDepth 100000 in
theorem br_chanceOf_4 {l : Launch} {dC : Nat → ClassId} {dI : Nat → Nat → Nat} {cB cI cJ cZ cS : ClassId} {h : Nat} {a : Nat → Nat} {as : List Value} {r : Int32} {s' : RS} {k4 : RS → Int32 → Int32 → Int32 → Option (Int32 × RS)} (hk4 : ∀ (s : RS) (x1 : Int32) (x2 : Int32) (x3 : Int32), k4 s x1 x2 x3 = some (r, s') → BlkI l yX11_chanceOf wsX11_chanceOf ({ frames := 3, cells := 0, slots := 0, locals := 67 }) cX11_chanceOf 5 (some .int) (dC, dI) (tysA cB cI cJ cZ cS) as 4 (mwS cB cI cJ cZ h a s) [(0, .ref h), (1, .int x1), (2, .int x2), (3, .int x3)] [] (fun x u => x = r ∧ u = (mwS cB cI cJ cZ h a s'))) (s : RS) (x1 : Int32) (x2 : Int32) (x3 : Int32) (hB : r_chanceOf_4 k4 s x1 x2 x3 = some (r, s')) : BlkI l yX11_chanceOf wsX11_chanceOf ({ frames := 3, cells := 0, slots := 0, locals := 67 }) cX11_chanceOf 5 (some .int) (dC, dI) (tysA cB cI cJ cZ cS) as 4 (mwS cB cI cJ cZ h a s) [(0, .ref h), (1, .int x1), (2, .int x2), (3, .int x3)] [] (fun x u => x = r ∧ u = (mwS cB cI cJ cZ h a s')) := by
  intro p e s0 m below meth c A E H locs ls hP hD hS hl
  obtain ⟨C, hr, hlocks, hA, hK, hN⟩ := id E
  obtain ⟨hx, hb, hml, hown, hts⟩ := id C
  unfold r_chanceOf_4 at hB
  refine lv_iload_n hx hb dX11_chanceOf_4 rfl (lv_at hl 3 rfl) ?_
  refine lv_aload_n hx hb dX11_chanceOf_5 rfl (lv_at hl 0 rfl) ?_
  refine q_get (v := .ref (a 20)) C inX11_chanceOf_X11 hK hP 0 rfl rfl 20 (by decide) rfl LX11_chanceOf_40 rfl dX11_chanceOf_6 ?_
  refine lv_aload_n hx hb dX11_chanceOf_9 rfl (lv_at hl 0 rfl) ?_
  refine q_get (v := .int (s.v 18)) C inX11_chanceOf_X11 hK hP 0 rfl rfl 18 (by decide) rfl LX11_chanceOf_215 rfl dX11_chanceOf_10 ?_
  obtain ⟨g1, hB⟩ := guard_inv hB
  refine q_iald (x := (s.f 20 (Int32.toNatClampNeg (s.v 18)))) C hK hP 8 1 rfl rfl (vpb_in g1) dX11_chanceOf_13 rfl ?_
  refine lv_icmp_ge (tgt := 55) hx hb dX11_chanceOf_14 (by decide) (fun c2 => ?_) (fun c2 => ?_)
  · have hB := if_p hB c2
    refine lv_iload_n hx hb dX11_chanceOf_55 rfl (lv_at hl 2 rfl) ?_
    exact q_iret C hr hlocks hK hP hD hS (Nat.le_of_ble_eq_true rfl) (Nat.le_of_ble_eq_true rfl) dX11_chanceOf_56 (by cases hB; exact ⟨rfl, rfl⟩)
  · have hB := if_n hB c2
    refine lv_aload_n hx hb dX11_chanceOf_17 rfl (lv_at hl 0 rfl) ?_
    refine lv_iload_n hx hb dX11_chanceOf_18 rfl (lv_at hl 1 rfl) ?_
    refine lv_iload_n hx hb dX11_chanceOf_19 rfl (lv_at hl 3 rfl) ?_
    obtain ⟨q_, s3, hc, hB⟩ := bindI_inv hB
    refine q_goiF (va_runV (As := [.int x1, .int x3]) (rest := []) C (cr_thingAt hc _) (cwV 2 hts gX11_chanceOf_X11_thingAt rfl rfl rfl (by decide +kernel) ⟨Nat.le_of_ble_eq_true rfl, Nat.le_of_ble_eq_true rfl⟩) (q_preV hK hP (ci := 11) (q0 := 0) rfl rfl rfl (q_preF hN hK hP hD)) rfl rfl hl.1 rfl (lv_room (Nat.le_of_ble_eq_true rfl)) dX11_chanceOf_20 ⟨Nat.le_of_ble_eq_true rfl, Nat.le_of_ble_eq_true rfl⟩) hD hS hA (fun r4 w1 H locs hw hP hD hS => ?_)
    obtain ⟨hq_, hw⟩ := hw; subst hw; subst hq_
    refine lv_istore (lv' := [(4, .int r4), (0, .ref h), (1, .int x1), (2, .int x2), (3, .int x3)]) hx hb dX11_chanceOf_23 hl (by decide) rfl (fun ls hl => ?_)
    refine lv_iload_n hx hb dX11_chanceOf_25 rfl (lv_at hl 3 rfl) ?_
    refine lv_aload_n hx hb dX11_chanceOf_26 rfl (lv_at hl 1 rfl) ?_
    refine lv_iload_n hx hb dX11_chanceOf_27 rfl (lv_at hl 4 rfl) ?_
    refine lv_iload hx hb dX11_chanceOf_28 (lv_at hl 0 rfl) ?_
    obtain ⟨q_, s5, hc, hB⟩ := bindI_inv hB
    refine q_goiF (va_runV (As := [.int x3, .int r4]) (rest := [.int x2]) C (cr_mayBe hc _) (cwV 2 hts gX11_chanceOf_X11_mayBe rfl rfl rfl (by decide +kernel) ⟨Nat.le_of_ble_eq_true rfl, Nat.le_of_ble_eq_true rfl⟩) (q_preV hK hP (ci := 11) (q0 := 0) rfl rfl rfl (q_preF hN hK hP hD)) rfl rfl hl.1 rfl (lv_room (Nat.le_of_ble_eq_true rfl)) dX11_chanceOf_30 ⟨Nat.le_of_ble_eq_true rfl, Nat.le_of_ble_eq_true rfl⟩) hD hS hA (fun r6 w1 H locs hw hP hD hS => ?_)
    obtain ⟨hq_, hw⟩ := hw; subst hw; subst hq_
    refine lv_if_eq (tgt := 46) hx hb dX11_chanceOf_33 (by decide) (fun c7 => ?_) (fun c7 => ?_)
    · have hB := if_p hB c7
      refine lv_iconst (v := 0) hx hb dX11_chanceOf_46 (by decide) ?_
      exact br_chanceOf_47 (hk4) _ _ _ _ _ hB p e s0 m below meth c A E H locs ls hP hD hS (lv_sub hl [1, 2, 4] rfl)
    · have hB := if_n hB c7
      refine lv_aload_n hx hb dX11_chanceOf_36 rfl (lv_at hl 1 rfl) ?_
      refine lv_iload_n hx hb dX11_chanceOf_37 rfl (lv_at hl 4 rfl) ?_
      refine lv_iload hx hb dX11_chanceOf_38 (lv_at hl 0 rfl) ?_
      obtain ⟨q_, s8, hc, hB⟩ := bindI_inv hB
      refine q_goiF (va_runV (As := [.int x3, .int r4]) (rest := [.int x2]) C (cr_oddsAt hc _) (cwV 2 hts gX11_chanceOf_X11_oddsAt rfl rfl rfl (by decide +kernel) ⟨Nat.le_of_ble_eq_true rfl, Nat.le_of_ble_eq_true rfl⟩) (q_preV hK hP (ci := 11) (q0 := 0) rfl rfl rfl (q_preF hN hK hP hD)) rfl rfl hl.1 rfl (lv_room (Nat.le_of_ble_eq_true rfl)) dX11_chanceOf_40 ⟨Nat.le_of_ble_eq_true rfl, Nat.le_of_ble_eq_true rfl⟩) hD hS hA (fun r9 w1 H locs hw hP hD hS => ?_)
      obtain ⟨hq_, hw⟩ := hw; subst hw; subst hq_
      refine lv_goto (tgt := 47) hx hb dX11_chanceOf_43 (by decide) ?_
      exact br_chanceOf_47 (hk4) _ _ _ _ _ hB p e s0 m below meth c A E H locs ls hP hD hS (lv_sub hl [1, 2, 4] rfl)
theorem br_chanceOf_4L {l : Launch} {dC : Nat → ClassId} {dI : Nat → Nat → Nat} {cB cI cJ cZ cS : ClassId} {h : Nat} {a : Nat → Nat} {as : List Value} {r : Int32} {s' : RS} : ∀ (n : Nat) (s : RS) (x1 : Int32) (x2 : Int32) (x3 : Int32), r_chanceOf_4L n s x1 x2 x3 = some (r, s') → BlkI l yX11_chanceOf wsX11_chanceOf ({ frames := 3, cells := 0, slots := 0, locals := 67 }) cX11_chanceOf 5 (some .int) (dC, dI) (tysA cB cI cJ cZ cS) as 4 (mwS cB cI cJ cZ h a s) [(0, .ref h), (1, .int x1), (2, .int x2), (3, .int x3)] [] (fun x u => x = r ∧ u = (mwS cB cI cJ cZ h a s')) := by
  intro n
  induction n with
  | zero => intro s x1 x2 x3 hB; exact none_ne hB
  | succ n ih => intro s x1 x2 x3 hB; exact br_chanceOf_4 ih _ _ _ _ hB
set_option maxHeartbeats 4000000 in
set_option maxRecDepth 100000 in
theorem br_chanceOf {l : Launch} {dC : Nat → ClassId} {dI : Nat → Nat → Nat} {cB cI cJ cZ cS : ClassId} {h : Nat} {a : Nat → Nat} {as : List Value} {r : Int32} {s' : RS} (s : RS) (x1 : Int32) (hB : r_chanceOf s x1 = some (r, s')) : BlkI l yX11_chanceOf wsX11_chanceOf ({ frames := 3, cells := 0, slots := 0, locals := 67 }) cX11_chanceOf 5 (some .int) (dC, dI) (tysA cB cI cJ cZ cS) as 0 (mwS cB cI cJ cZ h a s) [(0, .ref h), (1, .int x1)] [] (fun x u => x = r ∧ u = (mwS cB cI cJ cZ h a s')) := by
  intro p e s0 m below meth c A E H locs ls hP hD hS hl
  obtain ⟨C, hr, hlocks, hA, hK, hN⟩ := id E
  obtain ⟨hx, hb, hml, hown, hts⟩ := id C
  unfold r_chanceOf at hB
  refine lv_iconst (v := 1) hx hb dX11_chanceOf_0 (by decide) ?_
  refine lv_istore_n (lv' := [(2, .int 1), (0, .ref h), (1, .int x1)]) hx hb dX11_chanceOf_1 rfl hl (by decide) rfl (fun ls hl => ?_)
  refine lv_iconst (v := 0) hx hb dX11_chanceOf_2 (by decide) ?_
  refine lv_istore_n (lv' := [(3, .int 0), (2, .int 1), (0, .ref h), (1, .int x1)]) hx hb dX11_chanceOf_3 rfl hl (by decide) rfl (fun ls hl => ?_)
  exact br_chanceOf_4L fu _ _ _ _ hB p e s0 m below meth c A E H locs ls hP hD hS (lv_sub hl [2, 3, 1, 0] rfl)
theorem cr_chanceOf {l : Launch} {dC : Nat → ClassId} {dI : Nat → Nat → Nat} {cB cI cJ cZ cS : ClassId} {h : Nat} {a : Nat → Nat} {r : Int32} {s' : RS} {s : RS} {x1 : Int32} (hB : r_chanceOf s x1 = some (r, s')) : CI l yX11_chanceOf wsX11_chanceOf ({ frames := 3, cells := 0, slots := 0, locals := 67 }) (dC, dI) (tysA cB cI cJ cZ cS) (mwS cB cI cJ cZ h a s) [.ref h, .int x1] (fun x u => x = r ∧ u = (mwS cB cI cJ cZ h a s')) :=
  CI_of (cc := cX11_chanceOf) (maxL := 5) (ret := (some .int)) (by decide) rfl (Nat.le_of_ble_eq_true rfl) (br_chanceOf _ _ hB)
theorem LX11_isCase_215 : Cond.fieldLink RX11 215 "GuessFerryModel" "live" "I" ∈ wsX11_isCase := by decide +kernel
theorem LX11_isCase_40 : Cond.fieldLink RX11 40 "GuessFerryModel" "waves" "[I" ∈ wsX11_isCase := by decide +kernel
theorem inX11_isCase_X11 : ∀ w ∈ u_ws RX11 TX11 58, w ∈ wsX11_isCase := fun _ h => List.mem_cons_of_mem _ (List.mem_append_right _ h)
set_option maxHeartbeats 4000000 in
set_option maxRecDepth 100000 in
theorem br_isCase_2 {l : Launch} {dC : Nat → ClassId} {dI : Nat → Nat → Nat} {cB cI cJ cZ cS : ClassId} {h : Nat} {a : Nat → Nat} {as : List Value} {r : Int32} {s' : RS} {k2 : RS → Int32 → Int32 → Option (Int32 × RS)} (hk2 : ∀ (s : RS) (x1 : Int32) (x2 : Int32), k2 s x1 x2 = some (r, s') → BlkI l yX11_isCase wsX11_isCase ({ frames := 3, cells := 0, slots := 0, locals := 67 }) cX11_isCase 3 (some .boolean) (dC, dI) (tysA cB cI cJ cZ cS) as 2 (mwS cB cI cJ cZ h a s) [(0, .ref h), (1, .int x1), (2, .int x2)] [] (fun x u => x = r ∧ u = (mwS cB cI cJ cZ h a s'))) (s : RS) (x1 : Int32) (x2 : Int32) (hB : r_isCase_2 k2 s x1 x2 = some (r, s')) : BlkI l yX11_isCase wsX11_isCase ({ frames := 3, cells := 0, slots := 0, locals := 67 }) cX11_isCase 3 (some .boolean) (dC, dI) (tysA cB cI cJ cZ cS) as 2 (mwS cB cI cJ cZ h a s) [(0, .ref h), (1, .int x1), (2, .int x2)] [] (fun x u => x = r ∧ u = (mwS cB cI cJ cZ h a s')) := by
  intro p e s0 m below meth c A E H locs ls hP hD hS hl
  obtain ⟨C, hr, hlocks, hA, hK, hN⟩ := id E
  obtain ⟨hx, hb, hml, hown, hts⟩ := id C
  unfold r_isCase_2 at hB
  refine lv_iload_n hx hb dX11_isCase_2 rfl (lv_at hl 2 rfl) ?_
  refine lv_aload_n hx hb dX11_isCase_3 rfl (lv_at hl 0 rfl) ?_
  refine q_get (v := .ref (a 20)) C inX11_isCase_X11 hK hP 0 rfl rfl 20 (by decide) rfl LX11_isCase_40 rfl dX11_isCase_4 ?_
  refine lv_aload_n hx hb dX11_isCase_7 rfl (lv_at hl 0 rfl) ?_
  refine q_get (v := .int (s.v 18)) C inX11_isCase_X11 hK hP 0 rfl rfl 18 (by decide) rfl LX11_isCase_215 rfl dX11_isCase_8 ?_
  obtain ⟨g1, hB⟩ := guard_inv hB
  refine q_iald (x := (s.f 20 (Int32.toNatClampNeg (s.v 18)))) C hK hP 8 1 rfl rfl (vpb_in g1) dX11_isCase_11 rfl ?_
  refine lv_icmp_ge (tgt := 37) hx hb dX11_isCase_12 (by decide) (fun c2 => ?_) (fun c2 => ?_)
  · have hB := if_p hB c2
    refine lv_iconst (v := 1) hx hb dX11_isCase_37 (by decide) ?_
    exact q_zret C hr hlocks (Or.inr rfl) hK hP hD hS (Nat.le_of_ble_eq_true rfl) (Nat.le_of_ble_eq_true rfl) dX11_isCase_38 (by cases hB; exact ⟨rfl, rfl⟩)
  · have hB := if_n hB c2
    refine lv_aload_n hx hb dX11_isCase_15 rfl (lv_at hl 0 rfl) ?_
    refine lv_iload_n hx hb dX11_isCase_16 rfl (lv_at hl 2 rfl) ?_
    refine lv_aload_n hx hb dX11_isCase_17 rfl (lv_at hl 0 rfl) ?_
    refine lv_iload_n hx hb dX11_isCase_18 rfl (lv_at hl 1 rfl) ?_
    refine lv_iload_n hx hb dX11_isCase_19 rfl (lv_at hl 2 rfl) ?_
    obtain ⟨q_, s3, hc, hB⟩ := bindI_inv hB
    refine q_goiF (va_runV (As := [.int x1, .int x2]) (rest := [.int x2, .ref h]) C (cr_thingAt hc _) (cwV 2 hts gX11_isCase_X11_thingAt rfl rfl rfl (by decide +kernel) ⟨Nat.le_of_ble_eq_true rfl, Nat.le_of_ble_eq_true rfl⟩) (q_preV hK hP (ci := 11) (q0 := 0) rfl rfl rfl (q_preF hN hK hP hD)) rfl rfl hl.1 rfl (lv_room (Nat.le_of_ble_eq_true rfl)) dX11_isCase_20 ⟨Nat.le_of_ble_eq_true rfl, Nat.le_of_ble_eq_true rfl⟩) hD hS hA (fun r4 w1 H locs hw hP hD hS => ?_)
    obtain ⟨hq_, hw⟩ := hw; subst hw; subst hq_
    obtain ⟨q_, s5, hc, hB⟩ := bindI_inv hB
    refine q_goiF (va_runV (As := [.int x2, .int r4]) (rest := []) C (cr_mayBe hc _) (cwV 2 hts gX11_isCase_X11_mayBe rfl rfl rfl (by decide +kernel) ⟨Nat.le_of_ble_eq_true rfl, Nat.le_of_ble_eq_true rfl⟩) (q_preV hK hP (ci := 11) (q0 := 0) rfl rfl rfl (q_preF hN hK hP hD)) rfl rfl hl.1 rfl (lv_room (Nat.le_of_ble_eq_true rfl)) dX11_isCase_23 ⟨Nat.le_of_ble_eq_true rfl, Nat.le_of_ble_eq_true rfl⟩) hD hS hA (fun r6 w1 H locs hw hP hD hS => ?_)
    obtain ⟨hq_, hw⟩ := hw; subst hw; subst hq_
    refine lv_if_ne (tgt := 31) hx hb dX11_isCase_26 (by decide) (fun c7 => ?_) (fun c7 => ?_)
    · have hB := if_n hB c7
      refine lv_iinc (v := (x2 + 1)) (lv' := [(2, .int (x2 + 1)), (0, .ref h), (1, .int x1)]) hx hb dX11_isCase_31 hl (k := 2) rfl (rfl) (by decide) rfl (fun ls hl => ?_)
      refine lv_goto (tgt := 2) hx hb dX11_isCase_34 (by decide) ?_
      exact hk2 _ _ _ hB p e s0 m below meth c A E H locs ls hP hD hS (lv_sub hl [1, 2, 0] rfl)
    · have hB := if_p hB c7
      refine lv_iconst (v := 0) hx hb dX11_isCase_29 (by decide) ?_
      exact q_zret C hr hlocks (Or.inl rfl) hK hP hD hS (Nat.le_of_ble_eq_true rfl) (Nat.le_of_ble_eq_true rfl) dX11_isCase_30 (by cases hB; exact ⟨rfl, rfl⟩)
theorem br_isCase_2L {l : Launch} {dC : Nat → ClassId} {dI : Nat → Nat → Nat} {cB cI cJ cZ cS : ClassId} {h : Nat} {a : Nat → Nat} {as : List Value} {r : Int32} {s' : RS} : ∀ (n : Nat) (s : RS) (x1 : Int32) (x2 : Int32), r_isCase_2L n s x1 x2 = some (r, s') → BlkI l yX11_isCase wsX11_isCase ({ frames := 3, cells := 0, slots := 0, locals := 67 }) cX11_isCase 3 (some .boolean) (dC, dI) (tysA cB cI cJ cZ cS) as 2 (mwS cB cI cJ cZ h a s) [(0, .ref h), (1, .int x1), (2, .int x2)] [] (fun x u => x = r ∧ u = (mwS cB cI cJ cZ h a s')) := by
  intro n
  induction n with
  | zero => intro s x1 x2 hB; exact none_ne hB
  | succ n ih => intro s x1 x2 hB; exact br_isCase_2 ih _ _ _ hB
set_option maxHeartbeats 4000000 in
set_option maxRecDepth 100000 in
theorem br_isCase {l : Launch} {dC : Nat → ClassId} {dI : Nat → Nat → Nat} {cB cI cJ cZ cS : ClassId} {h : Nat} {a : Nat → Nat} {as : List Value} {r : Int32} {s' : RS} (s : RS) (x1 : Int32) (hB : r_isCase s x1 = some (r, s')) : BlkI l yX11_isCase wsX11_isCase ({ frames := 3, cells := 0, slots := 0, locals := 67 }) cX11_isCase 3 (some .boolean) (dC, dI) (tysA cB cI cJ cZ cS) as 0 (mwS cB cI cJ cZ h a s) [(0, .ref h), (1, .int x1)] [] (fun x u => x = r ∧ u = (mwS cB cI cJ cZ h a s')) := by
  intro p e s0 m below meth c A E H locs ls hP hD hS hl
  obtain ⟨C, hr, hlocks, hA, hK, hN⟩ := id E
  obtain ⟨hx, hb, hml, hown, hts⟩ := id C
  unfold r_isCase at hB
  refine lv_iconst (v := 0) hx hb dX11_isCase_0 (by decide) ?_
  refine lv_istore_n (lv' := [(2, .int 0), (0, .ref h), (1, .int x1)]) hx hb dX11_isCase_1 rfl hl (by decide) rfl (fun ls hl => ?_)
  exact br_isCase_2L fu _ _ _ hB p e s0 m below meth c A E H locs ls hP hD hS (lv_sub hl [1, 2, 0] rfl)
theorem cr_isCase {l : Launch} {dC : Nat → ClassId} {dI : Nat → Nat → Nat} {cB cI cJ cZ cS : ClassId} {h : Nat} {a : Nat → Nat} {r : Int32} {s' : RS} {s : RS} {x1 : Int32} (hB : r_isCase s x1 = some (r, s')) : CI l yX11_isCase wsX11_isCase ({ frames := 3, cells := 0, slots := 0, locals := 67 }) (dC, dI) (tysA cB cI cJ cZ cS) (mwS cB cI cJ cZ h a s) [.ref h, .int x1] (fun x u => x = r ∧ u = (mwS cB cI cJ cZ h a s')) :=
  CI_of (cc := cX11_isCase) (maxL := 3) (ret := (some .boolean)) (by decide) rfl (Nat.le_of_ble_eq_true rfl) (br_isCase _ _ hB)
set_option maxHeartbeats 4000000 in
set_option maxRecDepth 100000 in
theorem br_chance {l : Launch} {dC : Nat → ClassId} {dI : Nat → Nat → Nat} {cB cI cJ cZ cS : ClassId} {h : Nat} {a : Nat → Nat} {as : List Value} {r : Int32} {s' : RS} (s : RS) (x1 : Int32) (hB : r_chance s x1 = some (r, s')) : BlkI l yX11_chance wsX11_chance ({ frames := 4, cells := 0, slots := 0, locals := 91 }) cX11_chance 2 (some .int) (dC, dI) (tysA cB cI cJ cZ cS) as 0 (mwS cB cI cJ cZ h a s) [(0, .ref h), (1, .int x1)] [] (fun x u => x = r ∧ u = (mwS cB cI cJ cZ h a s')) := by
  intro p e s0 m below meth c A E H locs ls hP hD hS hl
  obtain ⟨C, hr, hlocks, hA, hK, hN⟩ := id E
  obtain ⟨hx, hb, hml, hown, hts⟩ := id C
  unfold r_chance at hB
  refine lv_aload_n hx hb dX11_chance_0 rfl (lv_at hl 0 rfl) ?_
  refine lv_iload_n hx hb dX11_chance_1 rfl (lv_at hl 1 rfl) ?_
  obtain ⟨q_, s1, hc, hB⟩ := bindI_inv hB
  refine q_goiF (va_runV (As := [.int x1]) (rest := []) C (cr_isGuess hc _) (cwV 1 hts gX11_chance_X11_isGuess rfl rfl rfl (by decide +kernel) ⟨Nat.le_of_ble_eq_true rfl, Nat.le_of_ble_eq_true rfl⟩) (q_preV hK hP (ci := 11) (q0 := 0) rfl rfl rfl (q_preF hN hK hP hD)) rfl rfl hl.1 rfl (lv_room (Nat.le_of_ble_eq_true rfl)) dX11_chance_2 ⟨Nat.le_of_ble_eq_true rfl, Nat.le_of_ble_eq_true rfl⟩) hD hS hA (fun r2 w1 H locs hw hP hD hS => ?_)
  obtain ⟨hq_, hw⟩ := hw; subst hw; subst hq_
  refine lv_if_ne (tgt := 10) hx hb dX11_chance_5 (by decide) (fun c3 => ?_) (fun c3 => ?_)
  · have hB := if_n hB c3
    refine lv_aload_n hx hb dX11_chance_10 rfl (lv_at hl 0 rfl) ?_
    obtain ⟨s4, hc, hB⟩ := bindP_inv hB
    refine q_govF (va_runV (As := []) (rest := []) C (cr_copies hc _) (cwV 0 hts gX11_chance_X11_copies rfl rfl rfl (by decide +kernel) ⟨Nat.le_of_ble_eq_true rfl, Nat.le_of_ble_eq_true rfl⟩) (q_preV hK hP (ci := 11) (q0 := 0) rfl rfl rfl (q_preF hN hK hP hD)) rfl rfl hl.1 rfl (lv_room (Nat.le_of_ble_eq_true rfl)) dX11_chance_11 ⟨Nat.le_of_ble_eq_true rfl, Nat.le_of_ble_eq_true rfl⟩) hD hS hA (fun w1 H locs hw hP hD hS => ?_)
    subst hw
    refine lv_aload_n hx hb dX11_chance_14 rfl (lv_at hl 0 rfl) ?_
    refine lv_iload_n hx hb dX11_chance_15 rfl (lv_at hl 1 rfl) ?_
    obtain ⟨q_, s5, hc, hB⟩ := bindI_inv hB
    refine q_goiF (va_runV (As := [.int x1]) (rest := []) C (cr_chanceOf hc _) (cwV 1 hts gX11_chance_X11_chanceOf rfl rfl rfl (by decide +kernel) ⟨Nat.le_of_ble_eq_true rfl, Nat.le_of_ble_eq_true rfl⟩) (q_preV hK hP (ci := 11) (q0 := 0) rfl rfl rfl (q_preF hN hK hP hD)) rfl rfl hl.1 rfl (lv_room (Nat.le_of_ble_eq_true rfl)) dX11_chance_16 ⟨Nat.le_of_ble_eq_true rfl, Nat.le_of_ble_eq_true rfl⟩) hD hS hA (fun r6 w1 H locs hw hP hD hS => ?_)
    obtain ⟨hq_, hw⟩ := hw; subst hw; subst hq_
    exact q_iret C hr hlocks hK hP hD hS (Nat.le_of_ble_eq_true rfl) (Nat.le_of_ble_eq_true rfl) dX11_chance_19 (by cases hB; exact ⟨rfl, rfl⟩)
  · have hB := if_p hB c3
    refine lv_iconst (v := (-1)) hx hb dX11_chance_8 (by decide) ?_
    exact q_iret C hr hlocks hK hP hD hS (Nat.le_of_ble_eq_true rfl) (Nat.le_of_ble_eq_true rfl) dX11_chance_9 (by cases hB; exact ⟨rfl, rfl⟩)
theorem cr_chance {l : Launch} {dC : Nat → ClassId} {dI : Nat → Nat → Nat} {cB cI cJ cZ cS : ClassId} {h : Nat} {a : Nat → Nat} {r : Int32} {s' : RS} {s : RS} {x1 : Int32} (hB : r_chance s x1 = some (r, s')) : CI l yX11_chance wsX11_chance ({ frames := 4, cells := 0, slots := 0, locals := 91 }) (dC, dI) (tysA cB cI cJ cZ cS) (mwS cB cI cJ cZ h a s) [.ref h, .int x1] (fun x u => x = r ∧ u = (mwS cB cI cJ cZ h a s')) :=
  CI_of (cc := cX11_chance) (maxL := 2) (ret := (some .int)) (by decide) rfl (Nat.le_of_ble_eq_true rfl) (br_chance _ _ hB)
set_option maxHeartbeats 4000000 in
set_option maxRecDepth 100000 in
theorem br_sumAt_28 {l : Launch} {dC : Nat → ClassId} {dI : Nat → Nat → Nat} {cB cI cJ cZ cS : ClassId} {h : Nat} {a : Nat → Nat} {as : List Value} {r : Int32} {s' : RS} {k4 : RS → Int32 → Int32 → Int32 → Option (Int32 × RS)} (hk4 : ∀ (s : RS) (x1 : Int32) (x2 : Int32) (x3 : Int32), k4 s x1 x2 x3 = some (r, s') → BlkI l yX11_sumAt wsX11_sumAt ({ frames := 3, cells := 0, slots := 0, locals := 67 }) cX11_sumAt 4 (some .int) (dC, dI) (tysA cB cI cJ cZ cS) as 4 (mwS cB cI cJ cZ h a s) [(0, .ref h), (1, .int x1), (2, .int x2), (3, .int x3)] [] (fun x u => x = r ∧ u = (mwS cB cI cJ cZ h a s'))) (s : RS) (x1 : Int32) (x2 : Int32) (x3 : Int32) (hB : r_sumAt_28 k4 s x1 x2 x3 = some (r, s')) : BlkI l yX11_sumAt wsX11_sumAt ({ frames := 3, cells := 0, slots := 0, locals := 67 }) cX11_sumAt 4 (some .int) (dC, dI) (tysA cB cI cJ cZ cS) as 28 (mwS cB cI cJ cZ h a s) [(0, .ref h), (1, .int x1), (2, .int x2), (3, .int x3)] [] (fun x u => x = r ∧ u = (mwS cB cI cJ cZ h a s')) := by
  intro p e s0 m below meth c A E H locs ls hP hD hS hl
  obtain ⟨C, hr, hlocks, hA, hK, hN⟩ := id E
  obtain ⟨hx, hb, hml, hown, hts⟩ := id C
  unfold r_sumAt_28 at hB
  refine lv_iinc (v := (x3 + 1)) (lv' := [(3, .int (x3 + 1)), (0, .ref h), (1, .int x1), (2, .int x2)]) hx hb dX11_sumAt_28 hl (k := 3) rfl (rfl) (by decide) rfl (fun ls hl => ?_)
  refine lv_goto (tgt := 4) hx hb dX11_sumAt_31 (by decide) ?_
  exact hk4 _ _ _ _ hB p e s0 m below meth c A E H locs ls hP hD hS (lv_sub hl [1, 2, 3, 0] rfl)
set_option maxHeartbeats 4000000 in
set_option maxRecDepth 100000 in
theorem br_sumAt_4 {l : Launch} {dC : Nat → ClassId} {dI : Nat → Nat → Nat} {cB cI cJ cZ cS : ClassId} {h : Nat} {a : Nat → Nat} {as : List Value} {r : Int32} {s' : RS} {k4 : RS → Int32 → Int32 → Int32 → Option (Int32 × RS)} (hk4 : ∀ (s : RS) (x1 : Int32) (x2 : Int32) (x3 : Int32), k4 s x1 x2 x3 = some (r, s') → BlkI l yX11_sumAt wsX11_sumAt ({ frames := 3, cells := 0, slots := 0, locals := 67 }) cX11_sumAt 4 (some .int) (dC, dI) (tysA cB cI cJ cZ cS) as 4 (mwS cB cI cJ cZ h a s) [(0, .ref h), (1, .int x1), (2, .int x2), (3, .int x3)] [] (fun x u => x = r ∧ u = (mwS cB cI cJ cZ h a s'))) (s : RS) (x1 : Int32) (x2 : Int32) (x3 : Int32) (hB : r_sumAt_4 k4 s x1 x2 x3 = some (r, s')) : BlkI l yX11_sumAt wsX11_sumAt ({ frames := 3, cells := 0, slots := 0, locals := 67 }) cX11_sumAt 4 (some .int) (dC, dI) (tysA cB cI cJ cZ cS) as 4 (mwS cB cI cJ cZ h a s) [(0, .ref h), (1, .int x1), (2, .int x2), (3, .int x3)] [] (fun x u => x = r ∧ u = (mwS cB cI cJ cZ h a s')) := by
  intro p e s0 m below meth c A E H locs ls hP hD hS hl
  obtain ⟨C, hr, hlocks, hA, hK, hN⟩ := id E
  obtain ⟨hx, hb, hml, hown, hts⟩ := id C
  unfold r_sumAt_4 at hB
  refine lv_iload_n hx hb dX11_sumAt_4 rfl (lv_at hl 3 rfl) ?_
  refine lv_bipush (v := 6) hx hb dX11_sumAt_5 (by decide) ?_
  refine lv_icmp_ge (tgt := 34) hx hb dX11_sumAt_7 (by decide) (fun c1 => ?_) (fun c1 => ?_)
  · have hB := if_p hB c1
    refine lv_iload_n hx hb dX11_sumAt_34 rfl (lv_at hl 2 rfl) ?_
    exact q_iret C hr hlocks hK hP hD hS (Nat.le_of_ble_eq_true rfl) (Nat.le_of_ble_eq_true rfl) dX11_sumAt_35 (by cases hB; exact ⟨rfl, rfl⟩)
  · have hB := if_n hB c1
    refine lv_aload_n hx hb dX11_sumAt_10 rfl (lv_at hl 0 rfl) ?_
    refine lv_iload_n hx hb dX11_sumAt_11 rfl (lv_at hl 1 rfl) ?_
    refine lv_iload_n hx hb dX11_sumAt_12 rfl (lv_at hl 3 rfl) ?_
    obtain ⟨q_, s2, hc, hB⟩ := bindI_inv hB
    refine q_goiF (va_runV (As := [.int x1, .int x3]) (rest := []) C (cr_mayBe hc _) (cwV 2 hts gX11_sumAt_X11_mayBe rfl rfl rfl (by decide +kernel) ⟨Nat.le_of_ble_eq_true rfl, Nat.le_of_ble_eq_true rfl⟩) (q_preV hK hP (ci := 11) (q0 := 0) rfl rfl rfl (q_preF hN hK hP hD)) rfl rfl hl.1 rfl (lv_room (Nat.le_of_ble_eq_true rfl)) dX11_sumAt_13 ⟨Nat.le_of_ble_eq_true rfl, Nat.le_of_ble_eq_true rfl⟩) hD hS hA (fun r3 w1 H locs hw hP hD hS => ?_)
    obtain ⟨hq_, hw⟩ := hw; subst hw; subst hq_
    refine lv_if_eq (tgt := 28) hx hb dX11_sumAt_16 (by decide) (fun c4 => ?_) (fun c4 => ?_)
    · have hB := if_p hB c4
      exact br_sumAt_28 (hk4) _ _ _ _ hB p e s0 m below meth c A E H locs ls hP hD hS (lv_sub hl [0, 1, 2, 3] rfl)
    · have hB := if_n hB c4
      refine lv_iload_n hx hb dX11_sumAt_19 rfl (lv_at hl 2 rfl) ?_
      refine lv_aload_n hx hb dX11_sumAt_20 rfl (lv_at hl 0 rfl) ?_
      refine lv_iload_n hx hb dX11_sumAt_21 rfl (lv_at hl 1 rfl) ?_
      refine lv_iload_n hx hb dX11_sumAt_22 rfl (lv_at hl 3 rfl) ?_
      obtain ⟨q_, s5, hc, hB⟩ := bindI_inv hB
      refine q_goiF (va_runV (As := [.int x1, .int x3]) (rest := [.int x2]) C (cr_oddsAt hc _) (cwV 2 hts gX11_sumAt_X11_oddsAt rfl rfl rfl (by decide +kernel) ⟨Nat.le_of_ble_eq_true rfl, Nat.le_of_ble_eq_true rfl⟩) (q_preV hK hP (ci := 11) (q0 := 0) rfl rfl rfl (q_preF hN hK hP hD)) rfl rfl hl.1 rfl (lv_room (Nat.le_of_ble_eq_true rfl)) dX11_sumAt_23 ⟨Nat.le_of_ble_eq_true rfl, Nat.le_of_ble_eq_true rfl⟩) hD hS hA (fun r6 w1 H locs hw hP hD hS => ?_)
      obtain ⟨hq_, hw⟩ := hw; subst hw; subst hq_
      refine lv_iadd hx hb dX11_sumAt_26 ?_
      refine lv_istore_n (lv' := [(2, .int (x2 + r6)), (0, .ref h), (1, .int x1), (3, .int x3)]) hx hb dX11_sumAt_27 rfl hl (by decide) rfl (fun ls hl => ?_)
      exact br_sumAt_28 (hk4) _ _ _ _ hB p e s0 m below meth c A E H locs ls hP hD hS (lv_sub hl [1, 2, 0, 3] rfl)
theorem br_sumAt_4L {l : Launch} {dC : Nat → ClassId} {dI : Nat → Nat → Nat} {cB cI cJ cZ cS : ClassId} {h : Nat} {a : Nat → Nat} {as : List Value} {r : Int32} {s' : RS} : ∀ (n : Nat) (s : RS) (x1 : Int32) (x2 : Int32) (x3 : Int32), r_sumAt_4L n s x1 x2 x3 = some (r, s') → BlkI l yX11_sumAt wsX11_sumAt ({ frames := 3, cells := 0, slots := 0, locals := 67 }) cX11_sumAt 4 (some .int) (dC, dI) (tysA cB cI cJ cZ cS) as 4 (mwS cB cI cJ cZ h a s) [(0, .ref h), (1, .int x1), (2, .int x2), (3, .int x3)] [] (fun x u => x = r ∧ u = (mwS cB cI cJ cZ h a s')) := by
  intro n
  induction n with
  | zero => intro s x1 x2 x3 hB; exact none_ne hB
  | succ n ih => intro s x1 x2 x3 hB; exact br_sumAt_4 ih _ _ _ _ hB
set_option maxHeartbeats 4000000 in
set_option maxRecDepth 100000 in
theorem br_sumAt {l : Launch} {dC : Nat → ClassId} {dI : Nat → Nat → Nat} {cB cI cJ cZ cS : ClassId} {h : Nat} {a : Nat → Nat} {as : List Value} {r : Int32} {s' : RS} (s : RS) (x1 : Int32) (hB : r_sumAt s x1 = some (r, s')) : BlkI l yX11_sumAt wsX11_sumAt ({ frames := 3, cells := 0, slots := 0, locals := 67 }) cX11_sumAt 4 (some .int) (dC, dI) (tysA cB cI cJ cZ cS) as 0 (mwS cB cI cJ cZ h a s) [(0, .ref h), (1, .int x1)] [] (fun x u => x = r ∧ u = (mwS cB cI cJ cZ h a s')) := by
  intro p e s0 m below meth c A E H locs ls hP hD hS hl
  obtain ⟨C, hr, hlocks, hA, hK, hN⟩ := id E
  obtain ⟨hx, hb, hml, hown, hts⟩ := id C
  unfold r_sumAt at hB
  refine lv_iconst (v := 0) hx hb dX11_sumAt_0 (by decide) ?_
  refine lv_istore_n (lv' := [(2, .int 0), (0, .ref h), (1, .int x1)]) hx hb dX11_sumAt_1 rfl hl (by decide) rfl (fun ls hl => ?_)
  refine lv_iconst (v := 0) hx hb dX11_sumAt_2 (by decide) ?_
  refine lv_istore_n (lv' := [(3, .int 0), (2, .int 0), (0, .ref h), (1, .int x1)]) hx hb dX11_sumAt_3 rfl hl (by decide) rfl (fun ls hl => ?_)
  exact br_sumAt_4L fu _ _ _ _ hB p e s0 m below meth c A E H locs ls hP hD hS (lv_sub hl [2, 3, 1, 0] rfl)
theorem cr_sumAt {l : Launch} {dC : Nat → ClassId} {dI : Nat → Nat → Nat} {cB cI cJ cZ cS : ClassId} {h : Nat} {a : Nat → Nat} {r : Int32} {s' : RS} {s : RS} {x1 : Int32} (hB : r_sumAt s x1 = some (r, s')) : CI l yX11_sumAt wsX11_sumAt ({ frames := 3, cells := 0, slots := 0, locals := 67 }) (dC, dI) (tysA cB cI cJ cZ cS) (mwS cB cI cJ cZ h a s) [.ref h, .int x1] (fun x u => x = r ∧ u = (mwS cB cI cJ cZ h a s')) :=
  CI_of (cc := cX11_sumAt) (maxL := 4) (ret := (some .int)) (by decide) rfl (Nat.le_of_ble_eq_true rfl) (br_sumAt _ _ hB)
theorem LX11_all_215 : Cond.fieldLink RX11 215 "GuessFerryModel" "live" "I" ∈ wsX11_all := by decide +kernel
theorem LX11_all_40 : Cond.fieldLink RX11 40 "GuessFerryModel" "waves" "[I" ∈ wsX11_all := by decide +kernel
theorem inX11_all_X11 : ∀ w ∈ u_ws RX11 TX11 58, w ∈ wsX11_all := by decide +kernel
set_option maxHeartbeats 4000000 in
set_option maxRecDepth 100000 in
theorem br_all_8 {l : Launch} {dC : Nat → ClassId} {dI : Nat → Nat → Nat} {cB cI cJ cZ cS : ClassId} {h : Nat} {a : Nat → Nat} {as : List Value} {r : Int32} {s' : RS} {k8 : RS → Int32 → Int32 → Option (Int32 × RS)} (hk8 : ∀ (s : RS) (x1 : Int32) (x2 : Int32), k8 s x1 x2 = some (r, s') → BlkI l yX11_all wsX11_all ({ frames := 4, cells := 0, slots := 0, locals := 90 }) cX11_all 3 (some .int) (dC, dI) (tysA cB cI cJ cZ cS) as 8 (mwS cB cI cJ cZ h a s) [(0, .ref h), (1, .int x1), (2, .int x2)] [] (fun x u => x = r ∧ u = (mwS cB cI cJ cZ h a s'))) (s : RS) (x1 : Int32) (x2 : Int32) (hB : r_all_8 k8 s x1 x2 = some (r, s')) : BlkI l yX11_all wsX11_all ({ frames := 4, cells := 0, slots := 0, locals := 90 }) cX11_all 3 (some .int) (dC, dI) (tysA cB cI cJ cZ cS) as 8 (mwS cB cI cJ cZ h a s) [(0, .ref h), (1, .int x1), (2, .int x2)] [] (fun x u => x = r ∧ u = (mwS cB cI cJ cZ h a s')) := by
  intro p e s0 m below meth c A E H locs ls hP hD hS hl
  obtain ⟨C, hr, hlocks, hA, hK, hN⟩ := id E
  obtain ⟨hx, hb, hml, hown, hts⟩ := id C
  unfold r_all_8 at hB
  refine lv_iload_n hx hb dX11_all_8 rfl (lv_at hl 2 rfl) ?_
  refine lv_aload_n hx hb dX11_all_9 rfl (lv_at hl 0 rfl) ?_
  refine q_get (v := .ref (a 20)) C inX11_all_X11 hK hP 0 rfl rfl 20 (by decide) rfl LX11_all_40 rfl dX11_all_10 ?_
  refine lv_aload_n hx hb dX11_all_13 rfl (lv_at hl 0 rfl) ?_
  refine q_get (v := .int (s.v 18)) C inX11_all_X11 hK hP 0 rfl rfl 18 (by decide) rfl LX11_all_215 rfl dX11_all_14 ?_
  obtain ⟨g1, hB⟩ := guard_inv hB
  refine q_iald (x := (s.f 20 (Int32.toNatClampNeg (s.v 18)))) C hK hP 8 1 rfl rfl (vpb_in g1) dX11_all_17 rfl ?_
  refine lv_icmp_ge (tgt := 35) hx hb dX11_all_18 (by decide) (fun c2 => ?_) (fun c2 => ?_)
  · have hB := if_p hB c2
    refine lv_iload_n hx hb dX11_all_35 rfl (lv_at hl 1 rfl) ?_
    exact q_iret C hr hlocks hK hP hD hS (Nat.le_of_ble_eq_true rfl) (Nat.le_of_ble_eq_true rfl) dX11_all_36 (by cases hB; exact ⟨rfl, rfl⟩)
  · have hB := if_n hB c2
    refine lv_iload_n hx hb dX11_all_21 rfl (lv_at hl 1 rfl) ?_
    refine lv_aload_n hx hb dX11_all_22 rfl (lv_at hl 0 rfl) ?_
    refine lv_iload_n hx hb dX11_all_23 rfl (lv_at hl 2 rfl) ?_
    obtain ⟨q_, s3, hc, hB⟩ := bindI_inv hB
    refine q_goiF (va_runV (As := [.int x2]) (rest := [.int x1]) C (cr_sumAt hc _) (cwV 1 hts gX11_all_X11_sumAt rfl rfl rfl (by decide +kernel) ⟨Nat.le_of_ble_eq_true rfl, Nat.le_of_ble_eq_true rfl⟩) (q_preV hK hP (ci := 11) (q0 := 0) rfl rfl rfl (q_preF hN hK hP hD)) rfl rfl hl.1 rfl (lv_room (Nat.le_of_ble_eq_true rfl)) dX11_all_24 ⟨Nat.le_of_ble_eq_true rfl, Nat.le_of_ble_eq_true rfl⟩) hD hS hA (fun r4 w1 H locs hw hP hD hS => ?_)
    obtain ⟨hq_, hw⟩ := hw; subst hw; subst hq_
    refine lv_imul hx hb dX11_all_27 ?_
    refine lv_istore_n (lv' := [(1, .int (x1 * r4)), (0, .ref h), (2, .int x2)]) hx hb dX11_all_28 rfl hl (by decide) rfl (fun ls hl => ?_)
    refine lv_iinc (v := (x2 + 1)) (lv' := [(2, .int (x2 + 1)), (1, .int (x1 * r4)), (0, .ref h)]) hx hb dX11_all_29 hl (k := 2) rfl (rfl) (by decide) rfl (fun ls hl => ?_)
    refine lv_goto (tgt := 8) hx hb dX11_all_32 (by decide) ?_
    exact hk8 _ _ _ hB p e s0 m below meth c A E H locs ls hP hD hS (lv_sub hl [2, 1, 0] rfl)
theorem br_all_8L {l : Launch} {dC : Nat → ClassId} {dI : Nat → Nat → Nat} {cB cI cJ cZ cS : ClassId} {h : Nat} {a : Nat → Nat} {as : List Value} {r : Int32} {s' : RS} : ∀ (n : Nat) (s : RS) (x1 : Int32) (x2 : Int32), r_all_8L n s x1 x2 = some (r, s') → BlkI l yX11_all wsX11_all ({ frames := 4, cells := 0, slots := 0, locals := 90 }) cX11_all 3 (some .int) (dC, dI) (tysA cB cI cJ cZ cS) as 8 (mwS cB cI cJ cZ h a s) [(0, .ref h), (1, .int x1), (2, .int x2)] [] (fun x u => x = r ∧ u = (mwS cB cI cJ cZ h a s')) := by
  intro n
  induction n with
  | zero => intro s x1 x2 hB; exact none_ne hB
  | succ n ih => intro s x1 x2 hB; exact br_all_8 ih _ _ _ hB
set_option maxHeartbeats 4000000 in
set_option maxRecDepth 100000 in
theorem br_all {l : Launch} {dC : Nat → ClassId} {dI : Nat → Nat → Nat} {cB cI cJ cZ cS : ClassId} {h : Nat} {a : Nat → Nat} {as : List Value} {r : Int32} {s' : RS} (s : RS) (hB : r_all s = some (r, s')) : BlkI l yX11_all wsX11_all ({ frames := 4, cells := 0, slots := 0, locals := 90 }) cX11_all 3 (some .int) (dC, dI) (tysA cB cI cJ cZ cS) as 0 (mwS cB cI cJ cZ h a s) [(0, .ref h)] [] (fun x u => x = r ∧ u = (mwS cB cI cJ cZ h a s')) := by
  intro p e s0 m below meth c A E H locs ls hP hD hS hl
  obtain ⟨C, hr, hlocks, hA, hK, hN⟩ := id E
  obtain ⟨hx, hb, hml, hown, hts⟩ := id C
  unfold r_all at hB
  refine lv_aload_n hx hb dX11_all_0 rfl (lv_at hl 0 rfl) ?_
  obtain ⟨s1, hc, hB⟩ := bindP_inv hB
  refine q_govF (va_runV (As := []) (rest := []) C (cr_copies hc _) (cwV 0 hts gX11_all_X11_copies rfl rfl rfl (by decide +kernel) ⟨Nat.le_of_ble_eq_true rfl, Nat.le_of_ble_eq_true rfl⟩) (q_preV hK hP (ci := 11) (q0 := 0) rfl rfl rfl (q_preF hN hK hP hD)) rfl rfl hl.1 rfl (lv_room (Nat.le_of_ble_eq_true rfl)) dX11_all_1 ⟨Nat.le_of_ble_eq_true rfl, Nat.le_of_ble_eq_true rfl⟩) hD hS hA (fun w1 H locs hw hP hD hS => ?_)
  subst hw
  refine lv_iconst (v := 1) hx hb dX11_all_4 (by decide) ?_
  refine lv_istore_n (lv' := [(1, .int 1), (0, .ref h)]) hx hb dX11_all_5 rfl hl (by decide) rfl (fun ls hl => ?_)
  refine lv_iconst (v := 0) hx hb dX11_all_6 (by decide) ?_
  refine lv_istore_n (lv' := [(2, .int 0), (1, .int 1), (0, .ref h)]) hx hb dX11_all_7 rfl hl (by decide) rfl (fun ls hl => ?_)
  exact br_all_8L fu _ _ _ hB p e s0 m below meth c A E H locs ls hP hD hS (lv_sub hl [2, 1, 0] rfl)
theorem cr_all {l : Launch} {dC : Nat → ClassId} {dI : Nat → Nat → Nat} {cB cI cJ cZ cS : ClassId} {h : Nat} {a : Nat → Nat} {r : Int32} {s' : RS} {s : RS} (hB : r_all s = some (r, s')) : CI l yX11_all wsX11_all ({ frames := 4, cells := 0, slots := 0, locals := 90 }) (dC, dI) (tysA cB cI cJ cZ cS) (mwS cB cI cJ cZ h a s) [.ref h] (fun x u => x = r ∧ u = (mwS cB cI cJ cZ h a s')) :=
  CI_of (cc := cX11_all) (maxL := 3) (ret := (some .int)) (by decide) rfl (Nat.le_of_ble_eq_true rfl) (br_all _ hB)
theorem LX11_bestFor_104 : Cond.fieldLink RX11 104 "GuessFerryModel" "sixes" "[I" ∈ wsX11_bestFor := by decide +kernel
theorem LX11_bestFor_215 : Cond.fieldLink RX11 215 "GuessFerryModel" "live" "I" ∈ wsX11_bestFor := by decide +kernel
theorem LX11_bestFor_40 : Cond.fieldLink RX11 40 "GuessFerryModel" "waves" "[I" ∈ wsX11_bestFor := by decide +kernel
theorem inX11_bestFor_X11 : ∀ w ∈ u_ws RX11 TX11 58, w ∈ wsX11_bestFor := by decide +kernel
set_option maxHeartbeats 4000000 in
set_option maxRecDepth 100000 in
theorem br_bestFor_83 {l : Launch} {dC : Nat → ClassId} {dI : Nat → Nat → Nat} {cB cI cJ cZ cS : ClassId} {h : Nat} {a : Nat → Nat} {as : List Value} {r : Int32} {s' : RS} {k4 : RS → Int32 → Int32 → Int32 → Option (Int32 × RS)} {k24 : RS → Int32 → Int32 → Int32 → Int32 → Int32 → Option (Int32 × RS)} (hk4 : ∀ (s : RS) (x1 : Int32) (x2 : Int32) (x3 : Int32), k4 s x1 x2 x3 = some (r, s') → BlkI l yX11_bestFor wsX11_bestFor ({ frames := 5, cells := 0, slots := 0, locals := 112 }) cX11_bestFor 6 (some .int) (dC, dI) (tysA cB cI cJ cZ cS) as 4 (mwS cB cI cJ cZ h a s) [(0, .ref h), (1, .int x1), (2, .int x2), (3, .int x3)] [] (fun x u => x = r ∧ u = (mwS cB cI cJ cZ h a s'))) (hk24 : ∀ (s : RS) (x1 : Int32) (x2 : Int32) (x3 : Int32) (x4 : Int32) (x5 : Int32), k24 s x1 x2 x3 x4 x5 = some (r, s') → BlkI l yX11_bestFor wsX11_bestFor ({ frames := 5, cells := 0, slots := 0, locals := 112 }) cX11_bestFor 6 (some .int) (dC, dI) (tysA cB cI cJ cZ cS) as 24 (mwS cB cI cJ cZ h a s) [(0, .ref h), (1, .int x1), (2, .int x2), (3, .int x3), (4, .int x4), (5, .int x5)] [] (fun x u => x = r ∧ u = (mwS cB cI cJ cZ h a s'))) (s : RS) (x1 : Int32) (x2 : Int32) (x3 : Int32) (x4 : Int32) (x5 : Int32) (hB : r_bestFor_83 k4 k24 s x1 x2 x3 x4 x5 = some (r, s')) : BlkI l yX11_bestFor wsX11_bestFor ({ frames := 5, cells := 0, slots := 0, locals := 112 }) cX11_bestFor 6 (some .int) (dC, dI) (tysA cB cI cJ cZ cS) as 83 (mwS cB cI cJ cZ h a s) [(0, .ref h), (1, .int x1), (2, .int x2), (3, .int x3), (4, .int x4), (5, .int x5)] [] (fun x u => x = r ∧ u = (mwS cB cI cJ cZ h a s')) := by
  intro p e s0 m below meth c A E H locs ls hP hD hS hl
  obtain ⟨C, hr, hlocks, hA, hK, hN⟩ := id E
  obtain ⟨hx, hb, hml, hown, hts⟩ := id C
  unfold r_bestFor_83 at hB
  refine lv_iinc (v := (x5 + 1)) (lv' := [(5, .int (x5 + 1)), (0, .ref h), (1, .int x1), (2, .int x2), (3, .int x3), (4, .int x4)]) hx hb dX11_bestFor_83 hl (k := 5) rfl (rfl) (by decide) rfl (fun ls hl => ?_)
  refine lv_goto (tgt := 24) hx hb dX11_bestFor_86 (by decide) ?_
  exact hk24 _ _ _ _ _ _ hB p e s0 m below meth c A E H locs ls hP hD hS (lv_sub hl [1, 2, 3, 4, 5, 0] rfl)
set_option maxHeartbeats 4000000 in
set_option maxRecDepth 100000 in
theorem br_bestFor_79 {l : Launch} {dC : Nat → ClassId} {dI : Nat → Nat → Nat} {cB cI cJ cZ cS : ClassId} {h : Nat} {a : Nat → Nat} {as : List Value} {r : Int32} {s' : RS} {k4 : RS → Int32 → Int32 → Int32 → Option (Int32 × RS)} {k24 : RS → Int32 → Int32 → Int32 → Int32 → Int32 → Option (Int32 × RS)} (hk4 : ∀ (s : RS) (x1 : Int32) (x2 : Int32) (x3 : Int32), k4 s x1 x2 x3 = some (r, s') → BlkI l yX11_bestFor wsX11_bestFor ({ frames := 5, cells := 0, slots := 0, locals := 112 }) cX11_bestFor 6 (some .int) (dC, dI) (tysA cB cI cJ cZ cS) as 4 (mwS cB cI cJ cZ h a s) [(0, .ref h), (1, .int x1), (2, .int x2), (3, .int x3)] [] (fun x u => x = r ∧ u = (mwS cB cI cJ cZ h a s'))) (hk24 : ∀ (s : RS) (x1 : Int32) (x2 : Int32) (x3 : Int32) (x4 : Int32) (x5 : Int32), k24 s x1 x2 x3 x4 x5 = some (r, s') → BlkI l yX11_bestFor wsX11_bestFor ({ frames := 5, cells := 0, slots := 0, locals := 112 }) cX11_bestFor 6 (some .int) (dC, dI) (tysA cB cI cJ cZ cS) as 24 (mwS cB cI cJ cZ h a s) [(0, .ref h), (1, .int x1), (2, .int x2), (3, .int x3), (4, .int x4), (5, .int x5)] [] (fun x u => x = r ∧ u = (mwS cB cI cJ cZ h a s'))) (s : RS) (x1 : Int32) (x2 : Int32) (x3 : Int32) (x5 : Int32) (hB : r_bestFor_79 k4 k24 s x1 x2 x3 x5 = some (r, s')) : BlkI l yX11_bestFor wsX11_bestFor ({ frames := 5, cells := 0, slots := 0, locals := 112 }) cX11_bestFor 6 (some .int) (dC, dI) (tysA cB cI cJ cZ cS) as 79 (mwS cB cI cJ cZ h a s) [(0, .ref h), (1, .int x1), (2, .int x2), (3, .int x3), (5, .int x5)] [] (fun x u => x = r ∧ u = (mwS cB cI cJ cZ h a s')) := by
  intro p e s0 m below meth c A E H locs ls hP hD hS hl
  obtain ⟨C, hr, hlocks, hA, hK, hN⟩ := id E
  obtain ⟨hx, hb, hml, hown, hts⟩ := id C
  unfold r_bestFor_79 at hB
  refine lv_iload hx hb dX11_bestFor_79 (lv_at hl 4 rfl) ?_
  refine lv_istore (lv' := [(4, .int x5), (0, .ref h), (1, .int x1), (2, .int x2), (3, .int x3), (5, .int x5)]) hx hb dX11_bestFor_81 hl (by decide) rfl (fun ls hl => ?_)
  exact br_bestFor_83 (hk4) (hk24) _ _ _ _ _ _ hB p e s0 m below meth c A E H locs ls hP hD hS (lv_sub hl [1, 2, 3, 4, 0, 5] rfl)
set_option maxHeartbeats 4000000 in
set_option maxRecDepth 100000 in
theorem br_bestFor_57 {l : Launch} {dC : Nat → ClassId} {dI : Nat → Nat → Nat} {cB cI cJ cZ cS : ClassId} {h : Nat} {a : Nat → Nat} {as : List Value} {r : Int32} {s' : RS} {k4 : RS → Int32 → Int32 → Int32 → Option (Int32 × RS)} {k24 : RS → Int32 → Int32 → Int32 → Int32 → Int32 → Option (Int32 × RS)} (hk4 : ∀ (s : RS) (x1 : Int32) (x2 : Int32) (x3 : Int32), k4 s x1 x2 x3 = some (r, s') → BlkI l yX11_bestFor wsX11_bestFor ({ frames := 5, cells := 0, slots := 0, locals := 112 }) cX11_bestFor 6 (some .int) (dC, dI) (tysA cB cI cJ cZ cS) as 4 (mwS cB cI cJ cZ h a s) [(0, .ref h), (1, .int x1), (2, .int x2), (3, .int x3)] [] (fun x u => x = r ∧ u = (mwS cB cI cJ cZ h a s'))) (hk24 : ∀ (s : RS) (x1 : Int32) (x2 : Int32) (x3 : Int32) (x4 : Int32) (x5 : Int32), k24 s x1 x2 x3 x4 x5 = some (r, s') → BlkI l yX11_bestFor wsX11_bestFor ({ frames := 5, cells := 0, slots := 0, locals := 112 }) cX11_bestFor 6 (some .int) (dC, dI) (tysA cB cI cJ cZ cS) as 24 (mwS cB cI cJ cZ h a s) [(0, .ref h), (1, .int x1), (2, .int x2), (3, .int x3), (4, .int x4), (5, .int x5)] [] (fun x u => x = r ∧ u = (mwS cB cI cJ cZ h a s'))) (s : RS) (x1 : Int32) (x2 : Int32) (x3 : Int32) (x4 : Int32) (x5 : Int32) (hB : r_bestFor_57 k4 k24 s x1 x2 x3 x4 x5 = some (r, s')) : BlkI l yX11_bestFor wsX11_bestFor ({ frames := 5, cells := 0, slots := 0, locals := 112 }) cX11_bestFor 6 (some .int) (dC, dI) (tysA cB cI cJ cZ cS) as 57 (mwS cB cI cJ cZ h a s) [(0, .ref h), (1, .int x1), (2, .int x2), (3, .int x3), (4, .int x4), (5, .int x5)] [] (fun x u => x = r ∧ u = (mwS cB cI cJ cZ h a s')) := by
  intro p e s0 m below meth c A E H locs ls hP hD hS hl
  obtain ⟨C, hr, hlocks, hA, hK, hN⟩ := id E
  obtain ⟨hx, hb, hml, hown, hts⟩ := id C
  unfold r_bestFor_57 at hB
  refine lv_iload hx hb dX11_bestFor_57 (lv_at hl 4 rfl) ?_
  refine lv_if_lt (tgt := 79) hx hb dX11_bestFor_59 (by decide) (fun c1 => ?_) (fun c1 => ?_)
  · have hB := if_p hB c1
    exact br_bestFor_79 (hk4) (hk24) _ _ _ _ _ hB p e s0 m below meth c A E H locs ls hP hD hS (lv_sub hl [0, 1, 2, 3, 5] rfl)
  · have hB := if_n hB c1
    refine lv_aload_n hx hb dX11_bestFor_62 rfl (lv_at hl 0 rfl) ?_
    refine lv_iload_n hx hb dX11_bestFor_63 rfl (lv_at hl 3 rfl) ?_
    refine lv_iload hx hb dX11_bestFor_64 (lv_at hl 5 rfl) ?_
    obtain ⟨q_, s2, hc, hB⟩ := bindI_inv hB
    refine q_goiF (va_runV (As := [.int x3, .int x5]) (rest := []) C (cr_oddsAt hc _) (cwV 2 hts gX11_bestFor_X11_oddsAt rfl rfl rfl (by decide +kernel) ⟨Nat.le_of_ble_eq_true rfl, Nat.le_of_ble_eq_true rfl⟩) (q_preV hK hP (ci := 11) (q0 := 0) rfl rfl rfl (q_preF hN hK hP hD)) rfl rfl hl.1 rfl (lv_room (Nat.le_of_ble_eq_true rfl)) dX11_bestFor_66 ⟨Nat.le_of_ble_eq_true rfl, Nat.le_of_ble_eq_true rfl⟩) hD hS hA (fun r3 w1 H locs hw hP hD hS => ?_)
    obtain ⟨hq_, hw⟩ := hw; subst hw; subst hq_
    refine lv_aload_n hx hb dX11_bestFor_69 rfl (lv_at hl 0 rfl) ?_
    refine lv_iload_n hx hb dX11_bestFor_70 rfl (lv_at hl 3 rfl) ?_
    refine lv_iload hx hb dX11_bestFor_71 (lv_at hl 4 rfl) ?_
    obtain ⟨q_, s4, hc, hB⟩ := bindI_inv hB
    refine q_goiF (va_runV (As := [.int x3, .int x4]) (rest := [.int r3]) C (cr_oddsAt hc _) (cwV 2 hts gX11_bestFor_X11_oddsAt rfl rfl rfl (by decide +kernel) ⟨Nat.le_of_ble_eq_true rfl, Nat.le_of_ble_eq_true rfl⟩) (q_preV hK hP (ci := 11) (q0 := 0) rfl rfl rfl (q_preF hN hK hP hD)) rfl rfl hl.1 rfl (lv_room (Nat.le_of_ble_eq_true rfl)) dX11_bestFor_73 ⟨Nat.le_of_ble_eq_true rfl, Nat.le_of_ble_eq_true rfl⟩) hD hS hA (fun r5 w1 H locs hw hP hD hS => ?_)
    obtain ⟨hq_, hw⟩ := hw; subst hw; subst hq_
    refine lv_icmp_le (tgt := 83) hx hb dX11_bestFor_76 (by decide) (fun c6 => ?_) (fun c6 => ?_)
    · have hB := if_p hB c6
      exact br_bestFor_83 (hk4) (hk24) _ _ _ _ _ _ hB p e s0 m below meth c A E H locs ls hP hD hS (lv_sub hl [0, 1, 2, 3, 4, 5] rfl)
    · have hB := if_n hB c6
      exact br_bestFor_79 (hk4) (hk24) _ _ _ _ _ hB p e s0 m below meth c A E H locs ls hP hD hS (lv_sub hl [0, 1, 2, 3, 5] rfl)
set_option maxHeartbeats 4000000 in
set_option maxRecDepth 100000 in
theorem br_bestFor_24 {l : Launch} {dC : Nat → ClassId} {dI : Nat → Nat → Nat} {cB cI cJ cZ cS : ClassId} {h : Nat} {a : Nat → Nat} {as : List Value} {r : Int32} {s' : RS} {k4 : RS → Int32 → Int32 → Int32 → Option (Int32 × RS)} {k24 : RS → Int32 → Int32 → Int32 → Int32 → Int32 → Option (Int32 × RS)} (hk4 : ∀ (s : RS) (x1 : Int32) (x2 : Int32) (x3 : Int32), k4 s x1 x2 x3 = some (r, s') → BlkI l yX11_bestFor wsX11_bestFor ({ frames := 5, cells := 0, slots := 0, locals := 112 }) cX11_bestFor 6 (some .int) (dC, dI) (tysA cB cI cJ cZ cS) as 4 (mwS cB cI cJ cZ h a s) [(0, .ref h), (1, .int x1), (2, .int x2), (3, .int x3)] [] (fun x u => x = r ∧ u = (mwS cB cI cJ cZ h a s'))) (hk24 : ∀ (s : RS) (x1 : Int32) (x2 : Int32) (x3 : Int32) (x4 : Int32) (x5 : Int32), k24 s x1 x2 x3 x4 x5 = some (r, s') → BlkI l yX11_bestFor wsX11_bestFor ({ frames := 5, cells := 0, slots := 0, locals := 112 }) cX11_bestFor 6 (some .int) (dC, dI) (tysA cB cI cJ cZ cS) as 24 (mwS cB cI cJ cZ h a s) [(0, .ref h), (1, .int x1), (2, .int x2), (3, .int x3), (4, .int x4), (5, .int x5)] [] (fun x u => x = r ∧ u = (mwS cB cI cJ cZ h a s'))) (s : RS) (x1 : Int32) (x2 : Int32) (x3 : Int32) (x4 : Int32) (x5 : Int32) (hB : r_bestFor_24 k4 k24 s x1 x2 x3 x4 x5 = some (r, s')) : BlkI l yX11_bestFor wsX11_bestFor ({ frames := 5, cells := 0, slots := 0, locals := 112 }) cX11_bestFor 6 (some .int) (dC, dI) (tysA cB cI cJ cZ cS) as 24 (mwS cB cI cJ cZ h a s) [(0, .ref h), (1, .int x1), (2, .int x2), (3, .int x3), (4, .int x4), (5, .int x5)] [] (fun x u => x = r ∧ u = (mwS cB cI cJ cZ h a s')) := by
  intro p e s0 m below meth c A E H locs ls hP hD hS hl
  obtain ⟨C, hr, hlocks, hA, hK, hN⟩ := id E
  obtain ⟨hx, hb, hml, hown, hts⟩ := id C
  unfold r_bestFor_24 at hB
  refine lv_iload hx hb dX11_bestFor_24 (lv_at hl 5 rfl) ?_
  refine lv_bipush (v := 6) hx hb dX11_bestFor_26 (by decide) ?_
  refine lv_icmp_ge (tgt := 89) hx hb dX11_bestFor_28 (by decide) (fun c1 => ?_) (fun c1 => ?_)
  · have hB := if_p hB c1
    refine lv_iload hx hb dX11_bestFor_89 (lv_at hl 4 rfl) ?_
    refine lv_if_ge (tgt := 97) hx hb dX11_bestFor_91 (by decide) (fun c2 => ?_) (fun c2 => ?_)
    · have hB := if_p hB c2
      refine lv_iload_n hx hb dX11_bestFor_97 rfl (lv_at hl 2 rfl) ?_
      refine lv_aload_n hx hb dX11_bestFor_98 rfl (lv_at hl 0 rfl) ?_
      refine q_get (v := .ref (a 46)) C inX11_bestFor_X11 hK hP 0 rfl rfl 46 (by decide) rfl LX11_bestFor_104 rfl dX11_bestFor_99 ?_
      refine lv_iload_n hx hb dX11_bestFor_102 rfl (lv_at hl 3 rfl) ?_
      obtain ⟨g3, hB⟩ := guard_inv hB
      refine q_iald (x := (s.f 46 (Int32.toNatClampNeg x3))) C hK hP 29 1 rfl rfl (vpb_in g3) dX11_bestFor_103 rfl ?_
      refine lv_iload hx hb dX11_bestFor_104 (lv_at hl 4 rfl) ?_
      refine lv_imul hx hb dX11_bestFor_106 ?_
      refine lv_iadd hx hb dX11_bestFor_107 ?_
      refine lv_istore_n (lv' := [(2, .int (x2 + ((s.f 46 (Int32.toNatClampNeg x3)) * x4))), (0, .ref h), (1, .int x1), (3, .int x3), (4, .int x4), (5, .int x5)]) hx hb dX11_bestFor_108 rfl hl (by decide) rfl (fun ls hl => ?_)
      refine lv_iinc (v := (x3 + 1)) (lv' := [(3, .int (x3 + 1)), (2, .int (x2 + ((s.f 46 (Int32.toNatClampNeg x3)) * x4))), (0, .ref h), (1, .int x1), (4, .int x4), (5, .int x5)]) hx hb dX11_bestFor_109 hl (k := 3) rfl (rfl) (by decide) rfl (fun ls hl => ?_)
      refine lv_goto (tgt := 4) hx hb dX11_bestFor_112 (by decide) ?_
      exact hk4 _ _ _ _ hB p e s0 m below meth c A E H locs ls hP hD hS (lv_sub hl [2, 3, 1, 0] rfl)
    · have hB := if_n hB c2
      refine lv_bipush (v := (-2)) hx hb dX11_bestFor_94 (by decide) ?_
      exact q_iret C hr hlocks hK hP hD hS (Nat.le_of_ble_eq_true rfl) (Nat.le_of_ble_eq_true rfl) dX11_bestFor_96 (by cases hB; exact ⟨rfl, rfl⟩)
  · have hB := if_n hB c1
    refine lv_aload_n hx hb dX11_bestFor_31 rfl (lv_at hl 0 rfl) ?_
    refine lv_iload_n hx hb dX11_bestFor_32 rfl (lv_at hl 3 rfl) ?_
    refine lv_iload hx hb dX11_bestFor_33 (lv_at hl 5 rfl) ?_
    obtain ⟨q_, s4, hc, hB⟩ := bindI_inv hB
    refine q_goiF (va_runV (As := [.int x3, .int x5]) (rest := []) C (cr_mayBe hc _) (cwV 2 hts gX11_bestFor_X11_mayBe rfl rfl rfl (by decide +kernel) ⟨Nat.le_of_ble_eq_true rfl, Nat.le_of_ble_eq_true rfl⟩) (q_preV hK hP (ci := 11) (q0 := 0) rfl rfl rfl (q_preF hN hK hP hD)) rfl rfl hl.1 rfl (lv_room (Nat.le_of_ble_eq_true rfl)) dX11_bestFor_35 ⟨Nat.le_of_ble_eq_true rfl, Nat.le_of_ble_eq_true rfl⟩) hD hS hA (fun r5 w1 H locs hw hP hD hS => ?_)
    obtain ⟨hq_, hw⟩ := hw; subst hw; subst hq_
    refine lv_if_eq (tgt := 83) hx hb dX11_bestFor_38 (by decide) (fun c6 => ?_) (fun c6 => ?_)
    · have hB := if_p hB c6
      exact br_bestFor_83 (hk4) (hk24) _ _ _ _ _ _ hB p e s0 m below meth c A E H locs ls hP hD hS (lv_sub hl [0, 1, 2, 3, 4, 5] rfl)
    · have hB := if_n hB c6
      refine lv_iload_n hx hb dX11_bestFor_41 rfl (lv_at hl 1 rfl) ?_
      refine lv_iconst (v := (-1)) hx hb dX11_bestFor_42 (by decide) ?_
      refine lv_icmp_eq (tgt := 57) hx hb dX11_bestFor_43 (by decide) (fun c7 => ?_) (fun c7 => ?_)
      · have hB := if_p hB c7
        exact br_bestFor_57 (hk4) (hk24) _ _ _ _ _ _ hB p e s0 m below meth c A E H locs ls hP hD hS (lv_sub hl [0, 1, 2, 3, 4, 5] rfl)
      · have hB := if_n hB c7
        refine lv_aload_n hx hb dX11_bestFor_46 rfl (lv_at hl 0 rfl) ?_
        refine lv_iload_n hx hb dX11_bestFor_47 rfl (lv_at hl 1 rfl) ?_
        refine lv_iload_n hx hb dX11_bestFor_48 rfl (lv_at hl 3 rfl) ?_
        refine lv_iload hx hb dX11_bestFor_49 (lv_at hl 5 rfl) ?_
        obtain ⟨q_, s8, hc, hB⟩ := bindI_inv hB
        refine q_goiF (va_runV (As := [.int x1, .int x3, .int x5]) (rest := []) C (cr_doesBear hc _) (cwV 3 hts gX11_bestFor_X11_doesBear rfl rfl rfl (by decide +kernel) ⟨Nat.le_of_ble_eq_true rfl, Nat.le_of_ble_eq_true rfl⟩) (q_preV hK hP (ci := 11) (q0 := 0) rfl rfl rfl (q_preF hN hK hP hD)) rfl rfl hl.1 rfl (lv_room (Nat.le_of_ble_eq_true rfl)) dX11_bestFor_51 ⟨Nat.le_of_ble_eq_true rfl, Nat.le_of_ble_eq_true rfl⟩) hD hS hA (fun r9 w1 H locs hw hP hD hS => ?_)
        obtain ⟨hq_, hw⟩ := hw; subst hw; subst hq_
        refine lv_if_eq (tgt := 83) hx hb dX11_bestFor_54 (by decide) (fun c10 => ?_) (fun c10 => ?_)
        · have hB := if_p hB c10
          exact br_bestFor_83 (hk4) (hk24) _ _ _ _ _ _ hB p e s0 m below meth c A E H locs ls hP hD hS (lv_sub hl [0, 1, 2, 3, 4, 5] rfl)
        · have hB := if_n hB c10
          exact br_bestFor_57 (hk4) (hk24) _ _ _ _ _ _ hB p e s0 m below meth c A E H locs ls hP hD hS (lv_sub hl [0, 1, 2, 3, 4, 5] rfl)
theorem br_bestFor_24L {l : Launch} {dC : Nat → ClassId} {dI : Nat → Nat → Nat} {cB cI cJ cZ cS : ClassId} {h : Nat} {a : Nat → Nat} {as : List Value} {r : Int32} {s' : RS} {k4 : RS → Int32 → Int32 → Int32 → Option (Int32 × RS)} (hk4 : ∀ (s : RS) (x1 : Int32) (x2 : Int32) (x3 : Int32), k4 s x1 x2 x3 = some (r, s') → BlkI l yX11_bestFor wsX11_bestFor ({ frames := 5, cells := 0, slots := 0, locals := 112 }) cX11_bestFor 6 (some .int) (dC, dI) (tysA cB cI cJ cZ cS) as 4 (mwS cB cI cJ cZ h a s) [(0, .ref h), (1, .int x1), (2, .int x2), (3, .int x3)] [] (fun x u => x = r ∧ u = (mwS cB cI cJ cZ h a s'))) : ∀ (n : Nat) (s : RS) (x1 : Int32) (x2 : Int32) (x3 : Int32) (x4 : Int32) (x5 : Int32), r_bestFor_24L k4 n s x1 x2 x3 x4 x5 = some (r, s') → BlkI l yX11_bestFor wsX11_bestFor ({ frames := 5, cells := 0, slots := 0, locals := 112 }) cX11_bestFor 6 (some .int) (dC, dI) (tysA cB cI cJ cZ cS) as 24 (mwS cB cI cJ cZ h a s) [(0, .ref h), (1, .int x1), (2, .int x2), (3, .int x3), (4, .int x4), (5, .int x5)] [] (fun x u => x = r ∧ u = (mwS cB cI cJ cZ h a s')) := by
  intro n
  induction n with
  | zero => intro s x1 x2 x3 x4 x5 hB; exact none_ne hB
  | succ n ih => intro s x1 x2 x3 x4 x5 hB; exact br_bestFor_24 hk4 ih _ _ _ _ _ _ hB
set_option maxHeartbeats 4000000 in
set_option maxRecDepth 100000 in
theorem br_bestFor_4 {l : Launch} {dC : Nat → ClassId} {dI : Nat → Nat → Nat} {cB cI cJ cZ cS : ClassId} {h : Nat} {a : Nat → Nat} {as : List Value} {r : Int32} {s' : RS} {k4 : RS → Int32 → Int32 → Int32 → Option (Int32 × RS)} (hk4 : ∀ (s : RS) (x1 : Int32) (x2 : Int32) (x3 : Int32), k4 s x1 x2 x3 = some (r, s') → BlkI l yX11_bestFor wsX11_bestFor ({ frames := 5, cells := 0, slots := 0, locals := 112 }) cX11_bestFor 6 (some .int) (dC, dI) (tysA cB cI cJ cZ cS) as 4 (mwS cB cI cJ cZ h a s) [(0, .ref h), (1, .int x1), (2, .int x2), (3, .int x3)] [] (fun x u => x = r ∧ u = (mwS cB cI cJ cZ h a s'))) (s : RS) (x1 : Int32) (x2 : Int32) (x3 : Int32) (hB : r_bestFor_4 k4 s x1 x2 x3 = some (r, s')) : BlkI l yX11_bestFor wsX11_bestFor ({ frames := 5, cells := 0, slots := 0, locals := 112 }) cX11_bestFor 6 (some .int) (dC, dI) (tysA cB cI cJ cZ cS) as 4 (mwS cB cI cJ cZ h a s) [(0, .ref h), (1, .int x1), (2, .int x2), (3, .int x3)] [] (fun x u => x = r ∧ u = (mwS cB cI cJ cZ h a s')) := by
  intro p e s0 m below meth c A E H locs ls hP hD hS hl
  obtain ⟨C, hr, hlocks, hA, hK, hN⟩ := id E
  obtain ⟨hx, hb, hml, hown, hts⟩ := id C
  unfold r_bestFor_4 at hB
  refine lv_iload_n hx hb dX11_bestFor_4 rfl (lv_at hl 3 rfl) ?_
  refine lv_aload_n hx hb dX11_bestFor_5 rfl (lv_at hl 0 rfl) ?_
  refine q_get (v := .ref (a 20)) C inX11_bestFor_X11 hK hP 0 rfl rfl 20 (by decide) rfl LX11_bestFor_40 rfl dX11_bestFor_6 ?_
  refine lv_aload_n hx hb dX11_bestFor_9 rfl (lv_at hl 0 rfl) ?_
  refine q_get (v := .int (s.v 18)) C inX11_bestFor_X11 hK hP 0 rfl rfl 18 (by decide) rfl LX11_bestFor_215 rfl dX11_bestFor_10 ?_
  obtain ⟨g1, hB⟩ := guard_inv hB
  refine q_iald (x := (s.f 20 (Int32.toNatClampNeg (s.v 18)))) C hK hP 8 1 rfl rfl (vpb_in g1) dX11_bestFor_13 rfl ?_
  refine lv_icmp_ge (tgt := 115) hx hb dX11_bestFor_14 (by decide) (fun c2 => ?_) (fun c2 => ?_)
  · have hB := if_p hB c2
    refine lv_iload_n hx hb dX11_bestFor_115 rfl (lv_at hl 2 rfl) ?_
    exact q_iret C hr hlocks hK hP hD hS (Nat.le_of_ble_eq_true rfl) (Nat.le_of_ble_eq_true rfl) dX11_bestFor_116 (by cases hB; exact ⟨rfl, rfl⟩)
  · have hB := if_n hB c2
    refine lv_bipush (v := (-2)) hx hb dX11_bestFor_17 (by decide) ?_
    refine lv_istore (lv' := [(4, .int (-2)), (0, .ref h), (1, .int x1), (2, .int x2), (3, .int x3)]) hx hb dX11_bestFor_19 hl (by decide) rfl (fun ls hl => ?_)
    refine lv_iconst (v := 0) hx hb dX11_bestFor_21 (by decide) ?_
    refine lv_istore (lv' := [(5, .int 0), (4, .int (-2)), (0, .ref h), (1, .int x1), (2, .int x2), (3, .int x3)]) hx hb dX11_bestFor_22 hl (by decide) rfl (fun ls hl => ?_)
    exact br_bestFor_24L (hk4) fu _ _ _ _ _ _ hB p e s0 m below meth c A E H locs ls hP hD hS (lv_sub hl [2, 3, 4, 5, 1, 0] rfl)
theorem br_bestFor_4L {l : Launch} {dC : Nat → ClassId} {dI : Nat → Nat → Nat} {cB cI cJ cZ cS : ClassId} {h : Nat} {a : Nat → Nat} {as : List Value} {r : Int32} {s' : RS} : ∀ (n : Nat) (s : RS) (x1 : Int32) (x2 : Int32) (x3 : Int32), r_bestFor_4L n s x1 x2 x3 = some (r, s') → BlkI l yX11_bestFor wsX11_bestFor ({ frames := 5, cells := 0, slots := 0, locals := 112 }) cX11_bestFor 6 (some .int) (dC, dI) (tysA cB cI cJ cZ cS) as 4 (mwS cB cI cJ cZ h a s) [(0, .ref h), (1, .int x1), (2, .int x2), (3, .int x3)] [] (fun x u => x = r ∧ u = (mwS cB cI cJ cZ h a s')) := by
  intro n
  induction n with
  | zero => intro s x1 x2 x3 hB; exact none_ne hB
  | succ n ih => intro s x1 x2 x3 hB; exact br_bestFor_4 ih _ _ _ _ hB
set_option maxHeartbeats 4000000 in
set_option maxRecDepth 100000 in
theorem br_bestFor {l : Launch} {dC : Nat → ClassId} {dI : Nat → Nat → Nat} {cB cI cJ cZ cS : ClassId} {h : Nat} {a : Nat → Nat} {as : List Value} {r : Int32} {s' : RS} (s : RS) (x1 : Int32) (hB : r_bestFor s x1 = some (r, s')) : BlkI l yX11_bestFor wsX11_bestFor ({ frames := 5, cells := 0, slots := 0, locals := 112 }) cX11_bestFor 6 (some .int) (dC, dI) (tysA cB cI cJ cZ cS) as 0 (mwS cB cI cJ cZ h a s) [(0, .ref h), (1, .int x1)] [] (fun x u => x = r ∧ u = (mwS cB cI cJ cZ h a s')) := by
  intro p e s0 m below meth c A E H locs ls hP hD hS hl
  obtain ⟨C, hr, hlocks, hA, hK, hN⟩ := id E
  obtain ⟨hx, hb, hml, hown, hts⟩ := id C
  unfold r_bestFor at hB
  refine lv_iconst (v := 0) hx hb dX11_bestFor_0 (by decide) ?_
  refine lv_istore_n (lv' := [(2, .int 0), (0, .ref h), (1, .int x1)]) hx hb dX11_bestFor_1 rfl hl (by decide) rfl (fun ls hl => ?_)
  refine lv_iconst (v := 0) hx hb dX11_bestFor_2 (by decide) ?_
  refine lv_istore_n (lv' := [(3, .int 0), (2, .int 0), (0, .ref h), (1, .int x1)]) hx hb dX11_bestFor_3 rfl hl (by decide) rfl (fun ls hl => ?_)
  exact br_bestFor_4L fu _ _ _ _ hB p e s0 m below meth c A E H locs ls hP hD hS (lv_sub hl [2, 3, 1, 0] rfl)
theorem cr_bestFor {l : Launch} {dC : Nat → ClassId} {dI : Nat → Nat → Nat} {cB cI cJ cZ cS : ClassId} {h : Nat} {a : Nat → Nat} {r : Int32} {s' : RS} {s : RS} {x1 : Int32} (hB : r_bestFor s x1 = some (r, s')) : CI l yX11_bestFor wsX11_bestFor ({ frames := 5, cells := 0, slots := 0, locals := 112 }) (dC, dI) (tysA cB cI cJ cZ cS) (mwS cB cI cJ cZ h a s) [.ref h, .int x1] (fun x u => x = r ∧ u = (mwS cB cI cJ cZ h a s')) :=
  CI_of (cc := cX11_bestFor) (maxL := 6) (ret := (some .int)) (by decide) rfl (Nat.le_of_ble_eq_true rfl) (br_bestFor _ _ hB)
