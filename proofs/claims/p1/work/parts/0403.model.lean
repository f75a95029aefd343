set_option maxRecDepth 20000 in
theorem ggX11_share_X11_isWave : GoodIn wsX11_share wsX11_isWave := goodIn_r _ [7, 1, 2, 8, 9, 6, 10, 39, 40, 41, 42, 43, 44, 45, 46, 47, 48, 49, 50, 51, 52, 53, 54, 55, 56, 57, 58, 59, 60, 61, 62, 63, 64, 65, 66, 67, 68, 69, 70, 71, 72, 73, 74, 75, 76, 77, 78, 79, 80, 81, 82, 83, 84, 85, 86, 87, 88, 89, 90, 91, 92, 93, 94, 95, 96] (by decide +kernel) (by decide +kernel)
set_option maxRecDepth 20000 in
theorem gX11_share_X11_isWave : GoodIn wsX11_share (wsV RX11 349 RX11 yX11_isWave wsX11_isWave) := goodIn_app (goodIn_of _ (by decide +kernel)) ggX11_share_X11_isWave
theorem dX11_share_0 : decode cX11_share 0 = .ok (.aload_n 0, 1) := by decide +kernel
theorem dX11_share_1 : decode cX11_share 1 = .ok (.iload_n 1, 1) := by decide +kernel
theorem dX11_share_2 : decode cX11_share 2 = .ok (.invokevirtual 349, 3) := by decide +kernel
theorem dX11_share_5 : decode cX11_share 5 = .ok (.ifCond .eq 10, 3) := by decide +kernel
theorem dX11_share_15 : decode cX11_share 15 = .ok (.iconst (-1), 1) := by decide +kernel
theorem dX11_share_16 : decode cX11_share 16 = .ok (.ireturn, 1) := by decide +kernel
set_option maxRecDepth 20000 in
theorem ggX11_sure_X11_isHere : GoodIn wsX11_sure wsX11_isHere := goodIn_r _ [8, 9, 10, 11, 12, 7, 13, 14, 2, 15, 16, 17, 119, 120, 121, 122, 123, 124, 125, 126, 127, 128, 129, 130, 131, 132, 133, 134, 135, 136, 137, 138, 139, 140, 141, 142, 143, 144, 145, 146, 147, 148, 149, 150, 151, 152, 153, 154, 155, 156, 157, 158, 159, 160, 161, 162, 163, 164, 165, 166, 167, 168, 169, 170, 171, 172, 173, 174, 175, 176] (by decide +kernel) (by decide +kernel)
set_option maxRecDepth 20000 in
theorem gX11_sure_X11_isHere : GoodIn wsX11_sure (wsV RX11 364 RX11 yX11_isHere wsX11_isHere) := goodIn_app (goodIn_of _ (by decide +kernel)) ggX11_sure_X11_isHere
theorem dX11_sure_0 : decode cX11_sure 0 = .ok (.aload_n 0, 1) := by decide +kernel
theorem dX11_sure_1 : decode cX11_sure 1 = .ok (.iload_n 1, 1) := by decide +kernel
theorem dX11_sure_2 : decode cX11_sure 2 = .ok (.invokevirtual 364, 3) := by decide +kernel
theorem dX11_sure_5 : decode cX11_sure 5 = .ok (.ifCond .eq 25, 3) := by decide +kernel
theorem dX11_sure_30 : decode cX11_sure 30 = .ok (.iconst (-1), 1) := by decide +kernel
theorem dX11_sure_31 : decode cX11_sure 31 = .ok (.ireturn, 1) := by decide +kernel
set_option maxRecDepth 20000 in
theorem ggX11_alike_X11_isGuess : GoodIn wsX11_alike wsX11_isGuess := goodIn_r _ [7, 8, 9, 10, 6, 11, 12, 1, 2, 13, 14, 15, 20, 21, 22, 23, 24, 25, 26, 27, 28, 29, 30, 31, 32, 33, 34, 35, 36, 37, 38, 39, 40, 41, 42, 43, 44, 45, 46, 47, 48, 49, 50, 51, 52, 53, 54, 55, 56, 57, 58, 59, 60, 61, 62, 63, 64, 65, 66, 67, 68, 69, 70, 71, 72, 73, 74, 75, 76, 77] (by decide +kernel) (by decide +kernel)
set_option maxRecDepth 20000 in
theorem gX11_alike_X11_isGuess : GoodIn wsX11_alike (wsV RX11 367 RX11 yX11_isGuess wsX11_isGuess) := goodIn_app (goodIn_of _ (by decide +kernel)) ggX11_alike_X11_isGuess
theorem dX11_alike_0 : decode cX11_alike 0 = .ok (.aload_n 0, 1) := by decide +kernel
theorem dX11_alike_1 : decode cX11_alike 1 = .ok (.iload_n 1, 1) := by decide +kernel
theorem dX11_alike_2 : decode cX11_alike 2 = .ok (.invokevirtual 367, 3) := by decide +kernel
theorem dX11_alike_5 : decode cX11_alike 5 = .ok (.ifCond .eq 11, 3) := by decide +kernel
theorem dX11_alike_8 : decode cX11_alike 8 = .ok (.aload_n 0, 1) := by decide +kernel
theorem dX11_alike_9 : decode cX11_alike 9 = .ok (.iload_n 2, 1) := by decide +kernel
theorem dX11_alike_10 : decode cX11_alike 10 = .ok (.invokevirtual 367, 3) := by decide +kernel
theorem dX11_alike_13 : decode cX11_alike 13 = .ok (.ifCond .ne 5, 3) := by decide +kernel
theorem dX11_alike_16 : decode cX11_alike 16 = .ok (.iconst (-1), 1) := by decide +kernel
theorem dX11_alike_17 : decode cX11_alike 17 = .ok (.ireturn, 1) := by decide +kernel
theorem dX11_alike_18 : decode cX11_alike 18 = .ok (.iconst 0, 1) := by decide +kernel
theorem dX11_alike_19 : decode cX11_alike 19 = .ok (.istore_n 3, 1) := by decide +kernel
theorem dX11_alike_20 : decode cX11_alike 20 = .ok (.iload_n 3, 1) := by decide +kernel
theorem dX11_alike_21 : decode cX11_alike 21 = .ok (.aload_n 0, 1) := by decide +kernel
theorem dX11_alike_22 : decode cX11_alike 22 = .ok (.getfield 40, 3) := by decide +kernel
theorem dX11_alike_25 : decode cX11_alike 25 = .ok (.aload_n 0, 1) := by decide +kernel
theorem dX11_alike_26 : decode cX11_alike 26 = .ok (.getfield 215, 3) := by decide +kernel
theorem dX11_alike_29 : decode cX11_alike 29 = .ok (.iaload, 1) := by decide +kernel
theorem dX11_alike_30 : decode cX11_alike 30 = .ok (.if_icmp .ge 24, 3) := by decide +kernel
theorem dX11_alike_54 : decode cX11_alike 54 = .ok (.iload_n 3, 1) := by decide +kernel
theorem dX11_alike_55 : decode cX11_alike 55 = .ok (.ireturn, 1) := by decide +kernel
set_option maxRecDepth 20000 in
theorem ggX11_stuck_X11_copies : GoodIn wsX11_stuck wsX11_copies := goodIn_r _ [7, 8, 9, 10, 2, 11, 86, 87, 88, 89, 90, 91, 92, 93, 94, 95, 96, 97, 98, 99, 100, 101, 102, 103, 104, 105, 106, 107, 108, 109, 110, 111, 112, 113, 114, 115, 116, 117, 118, 119, 120, 121, 122, 123, 124, 125, 126, 127, 128, 129, 130, 131, 132, 133, 134, 135, 136, 137, 138, 139, 140, 141, 142, 143] (by decide +kernel) (by decide +kernel)
set_option maxRecDepth 20000 in
theorem gX11_stuck_X11_copies : GoodIn wsX11_stuck (wsV RX11 352 RX11 yX11_copies wsX11_copies) := goodIn_app (goodIn_of _ (by decide +kernel)) ggX11_stuck_X11_copies
theorem dX11_stuck_0 : decode cX11_stuck 0 = .ok (.aload_n 0, 1) := by decide +kernel
theorem dX11_stuck_1 : decode cX11_stuck 1 = .ok (.invokevirtual 352, 3) := by decide +kernel
theorem dX11_stuck_4 : decode cX11_stuck 4 = .ok (.iconst 0, 1) := by decide +kernel
theorem dX11_stuck_5 : decode cX11_stuck 5 = .ok (.istore_n 1, 1) := by decide +kernel
theorem dX11_stuck_6 : decode cX11_stuck 6 = .ok (.iconst 0, 1) := by decide +kernel
theorem dX11_stuck_7 : decode cX11_stuck 7 = .ok (.istore_n 2, 1) := by decide +kernel
theorem dX11_stuck_8 : decode cX11_stuck 8 = .ok (.iload_n 2, 1) := by decide +kernel
theorem dX11_stuck_9 : decode cX11_stuck 9 = .ok (.aload_n 0, 1) := by decide +kernel
theorem dX11_stuck_10 : decode cX11_stuck 10 = .ok (.getfield 49, 3) := by decide +kernel
theorem dX11_stuck_13 : decode cX11_stuck 13 = .ok (.aload_n 0, 1) := by decide +kernel
theorem dX11_stuck_14 : decode cX11_stuck 14 = .ok (.getfield 215, 3) := by decide +kernel
theorem dX11_stuck_17 : decode cX11_stuck 17 = .ok (.iaload, 1) := by decide +kernel
theorem dX11_stuck_18 : decode cX11_stuck 18 = .ok (.if_icmp .ge 31, 3) := by decide +kernel
theorem dX11_stuck_49 : decode cX11_stuck 49 = .ok (.iload_n 1, 1) := by decide +kernel
theorem dX11_stuck_50 : decode cX11_stuck 50 = .ok (.ireturn, 1) := by decide +kernel
set_option maxRecDepth 20000 in
theorem ggX11_spread_X11_isWave : GoodIn wsX11_spread wsX11_isWave := goodIn_r _ [5, 6, 7, 8, 9, 4, 10, 32, 33, 34, 35, 36, 37, 38, 39, 40, 41, 42, 43, 44, 45, 46, 47, 48, 49, 50, 51, 52, 53, 54, 55, 56, 57, 58, 59, 60, 61, 62, 63, 64, 65, 66, 67, 68, 69, 70, 71, 72, 73, 74, 75, 76, 77, 78, 79, 80, 81, 82, 83, 84, 85, 86, 87, 88, 89] (by decide +kernel) (by decide +kernel)
set_option maxRecDepth 20000 in
theorem gX11_spread_X11_isWave : GoodIn wsX11_spread (wsV RX11 349 RX11 yX11_isWave wsX11_isWave) := goodIn_app (goodIn_of _ (by decide +kernel)) ggX11_spread_X11_isWave
theorem dX11_spread_0 : decode cX11_spread 0 = .ok (.aload_n 0, 1) := by decide +kernel
theorem dX11_spread_1 : decode cX11_spread 1 = .ok (.iload_n 1, 1) := by decide +kernel
theorem dX11_spread_2 : decode cX11_spread 2 = .ok (.invokevirtual 349, 3) := by decide +kernel
theorem dX11_spread_5 : decode cX11_spread 5 = .ok (.ifCond .ne 5, 3) := by decide +kernel
theorem dX11_spread_8 : decode cX11_spread 8 = .ok (.iconst (-1), 1) := by decide +kernel
theorem dX11_spread_9 : decode cX11_spread 9 = .ok (.ireturn, 1) := by decide +kernel
set_option maxRecDepth 20000 in
theorem ggX11_chosen_X11_copies : GoodIn wsX11_chosen wsX11_copies := goodIn_r _ [7, 8, 9, 10, 2, 11, 94, 95, 96, 97, 98, 99, 100, 101, 102, 103, 104, 105, 106, 107, 108, 109, 110, 111, 112, 113, 114, 115, 116, 117, 118, 119, 120, 121, 122, 123, 124, 125, 126, 127, 128, 129, 130, 131, 132, 133, 134, 135, 136, 137, 138, 139, 140, 141, 142, 143, 144, 145, 146, 147, 148, 149, 150, 151] (by decide +kernel) (by decide +kernel)
set_option maxRecDepth 20000 in
theorem gX11_chosen_X11_copies : GoodIn wsX11_chosen (wsV RX11 352 RX11 yX11_copies wsX11_copies) := goodIn_app (goodIn_of _ (by decide +kernel)) ggX11_chosen_X11_copies
theorem dX11_chosen_0 : decode cX11_chosen 0 = .ok (.aload_n 0, 1) := by decide +kernel
theorem dX11_chosen_1 : decode cX11_chosen 1 = .ok (.invokevirtual 352, 3) := by decide +kernel
theorem dX11_chosen_4 : decode cX11_chosen 4 = .ok (.bipush (-2), 2) := by decide +kernel
theorem dX11_chosen_6 : decode cX11_chosen 6 = .ok (.istore_n 1, 1) := by decide +kernel
theorem dX11_chosen_7 : decode cX11_chosen 7 = .ok (.iconst 0, 1) := by decide +kernel
theorem dX11_chosen_8 : decode cX11_chosen 8 = .ok (.istore_n 2, 1) := by decide +kernel
theorem dX11_chosen_9 : decode cX11_chosen 9 = .ok (.iconst 0, 1) := by decide +kernel
theorem dX11_chosen_10 : decode cX11_chosen 10 = .ok (.istore_n 3, 1) := by decide +kernel
theorem dX11_chosen_11 : decode cX11_chosen 11 = .ok (.iload_n 3, 1) := by decide +kernel
theorem dX11_chosen_12 : decode cX11_chosen 12 = .ok (.aload_n 0, 1) := by decide +kernel
theorem dX11_chosen_13 : decode cX11_chosen 13 = .ok (.getfield 49, 3) := by decide +kernel
theorem dX11_chosen_16 : decode cX11_chosen 16 = .ok (.aload_n 0, 1) := by decide +kernel
theorem dX11_chosen_17 : decode cX11_chosen 17 = .ok (.getfield 215, 3) := by decide +kernel
theorem dX11_chosen_20 : decode cX11_chosen 20 = .ok (.iaload, 1) := by decide +kernel
theorem dX11_chosen_21 : decode cX11_chosen 21 = .ok (.if_icmp .ge 60, 3) := by decide +kernel
theorem dX11_chosen_81 : decode cX11_chosen 81 = .ok (.iload_n 1, 1) := by decide +kernel
theorem dX11_chosen_82 : decode cX11_chosen 82 = .ok (.ireturn, 1) := by decide +kernel
set_option maxRecDepth 20000 in
theorem ggX11_darers_X11_copies : GoodIn wsX11_darers wsX11_copies := goodIn_r _ [7, 8, 9, 10, 2, 11, 53, 54, 55, 56, 57, 58, 59, 60, 61, 62, 63, 64, 65, 66, 67, 68, 69, 70, 71, 72, 73, 74, 75, 76, 77, 78, 79, 80, 81, 82, 83, 84, 85, 86, 87, 88, 89, 90, 91, 92, 93, 94, 95, 96, 97, 98, 99, 100, 101, 102, 103, 104, 105, 106, 107, 108, 109, 110] (by decide +kernel) (by decide +kernel)
set_option maxRecDepth 20000 in
theorem gX11_darers_X11_copies : GoodIn wsX11_darers (wsV RX11 352 RX11 yX11_copies wsX11_copies) := goodIn_app (goodIn_of _ (by decide +kernel)) ggX11_darers_X11_copies
theorem dX11_darers_0 : decode cX11_darers 0 = .ok (.aload_n 0, 1) := by decide +kernel
theorem dX11_darers_1 : decode cX11_darers 1 = .ok (.invokevirtual 352, 3) := by decide +kernel
theorem dX11_darers_4 : decode cX11_darers 4 = .ok (.iconst 0, 1) := by decide +kernel
theorem dX11_darers_5 : decode cX11_darers 5 = .ok (.istore_n 1, 1) := by decide +kernel
theorem dX11_darers_6 : decode cX11_darers 6 = .ok (.iconst 0, 1) := by decide +kernel
theorem dX11_darers_7 : decode cX11_darers 7 = .ok (.istore_n 2, 1) := by decide +kernel
theorem dX11_darers_8 : decode cX11_darers 8 = .ok (.iload_n 2, 1) := by decide +kernel
theorem dX11_darers_9 : decode cX11_darers 9 = .ok (.aload_n 0, 1) := by decide +kernel
theorem dX11_darers_10 : decode cX11_darers 10 = .ok (.getfield 49, 3) := by decide +kernel
theorem dX11_darers_13 : decode cX11_darers 13 = .ok (.aload_n 0, 1) := by decide +kernel
theorem dX11_darers_14 : decode cX11_darers 14 = .ok (.getfield 215, 3) := by decide +kernel
theorem dX11_darers_17 : decode cX11_darers 17 = .ok (.iaload, 1) := by decide +kernel
theorem dX11_darers_18 : decode cX11_darers 18 = .ok (.if_icmp .ge 31, 3) := by decide +kernel
theorem dX11_darers_49 : decode cX11_darers 49 = .ok (.iload_n 1, 1) := by decide +kernel
theorem dX11_darers_50 : decode cX11_darers 50 = .ok (.ireturn, 1) := by decide +kernel
set_option maxRecDepth 20000 in
theorem ggX11_open_X11_copies : GoodIn wsX11_open wsX11_copies := goodIn_r _ [7, 8, 9, 10, 2, 11, 24, 25, 26, 27, 28, 29, 30, 31, 32, 33, 34, 35, 36, 37, 38, 39, 40, 41, 42, 43, 44, 45, 46, 47, 48, 49, 50, 51, 52, 53, 54, 55, 56, 57, 58, 59, 60, 61, 62, 63, 64, 65, 66, 67, 68, 69, 70, 71, 72, 73, 74, 75, 76, 77, 78, 79, 80, 81] (by decide +kernel) (by decide +kernel)
set_option maxRecDepth 20000 in
theorem gX11_open_X11_copies : GoodIn wsX11_open (wsV RX11 352 RX11 yX11_copies wsX11_copies) := goodIn_app (goodIn_of _ (by decide +kernel)) ggX11_open_X11_copies
theorem dX11_open_0 : decode cX11_open 0 = .ok (.aload_n 0, 1) := by decide +kernel
theorem dX11_open_1 : decode cX11_open 1 = .ok (.invokevirtual 352, 3) := by decide +kernel
theorem dX11_open_4 : decode cX11_open 4 = .ok (.iconst 0, 1) := by decide +kernel
theorem dX11_open_5 : decode cX11_open 5 = .ok (.istore_n 1, 1) := by decide +kernel
theorem dX11_open_6 : decode cX11_open 6 = .ok (.iconst 0, 1) := by decide +kernel
theorem dX11_open_7 : decode cX11_open 7 = .ok (.istore_n 2, 1) := by decide +kernel
theorem dX11_open_8 : decode cX11_open 8 = .ok (.iload_n 2, 1) := by decide +kernel
theorem dX11_open_9 : decode cX11_open 9 = .ok (.aload_n 0, 1) := by decide +kernel
theorem dX11_open_10 : decode cX11_open 10 = .ok (.getfield 40, 3) := by decide +kernel
theorem dX11_open_13 : decode cX11_open 13 = .ok (.aload_n 0, 1) := by decide +kernel
theorem dX11_open_14 : decode cX11_open 14 = .ok (.getfield 215, 3) := by decide +kernel
theorem dX11_open_17 : decode cX11_open 17 = .ok (.iaload, 1) := by decide +kernel
theorem dX11_open_18 : decode cX11_open 18 = .ok (.if_icmp .ge 27, 3) := by decide +kernel
theorem dX11_open_45 : decode cX11_open 45 = .ok (.iload_n 1, 1) := by decide +kernel
theorem dX11_open_46 : decode cX11_open 46 = .ok (.ireturn, 1) := by decide +kernel
set_option maxRecDepth 20000 in
theorem ggX11_then_X11_isWave : GoodIn wsX11_then wsX11_isWave := goodIn_r _ [6, 7, 8, 9, 10, 5, 11, 93, 94, 95, 96, 97, 98, 99, 100, 101, 102, 103, 104, 105, 106, 107, 108, 109, 110, 111, 112, 113, 114, 115, 116, 117, 118, 119, 120, 121, 122, 123, 124, 125, 126, 127, 128, 129, 130, 131, 132, 133, 134, 135, 136, 137, 138, 139, 140, 141, 142, 143, 144, 145, 146, 147, 148, 149, 150] (by decide +kernel) (by decide +kernel)
set_option maxRecDepth 20000 in
theorem gX11_then_X11_isWave : GoodIn wsX11_then (wsV RX11 349 RX11 yX11_isWave wsX11_isWave) := goodIn_app (goodIn_of _ (by decide +kernel)) ggX11_then_X11_isWave
theorem dX11_then_0 : decode cX11_then 0 = .ok (.aload_n 0, 1) := by decide +kernel
theorem dX11_then_1 : decode cX11_then 1 = .ok (.iload_n 1, 1) := by decide +kernel
theorem dX11_then_2 : decode cX11_then 2 = .ok (.invokevirtual 349, 3) := by decide +kernel
theorem dX11_then_5 : decode cX11_then 5 = .ok (.ifCond .eq 19, 3) := by decide +kernel
theorem dX11_then_24 : decode cX11_then 24 = .ok (.iconst (-1), 1) := by decide +kernel
theorem dX11_then_25 : decode cX11_then 25 = .ok (.ireturn, 1) := by decide +kernel
set_option maxRecDepth 20000 in
theorem ggX11_next_X11_isWave : GoodIn wsX11_next wsX11_isWave := goodIn_r _ [7, 8, 9, 10, 11, 6, 12, 82, 83, 84, 85, 86, 87, 88, 89, 90, 91, 92, 93, 94, 95, 96, 97, 98, 99, 100, 101, 102, 103, 104, 105, 106, 107, 108, 109, 110, 111, 112, 113, 114, 115, 116, 117, 118, 119, 120, 121, 122, 123, 124, 125, 126, 127, 128, 129, 130, 131, 132, 133, 134, 135, 136, 137, 138, 139] (by decide +kernel) (by decide +kernel)
set_option maxRecDepth 20000 in
theorem gX11_next_X11_isWave : GoodIn wsX11_next (wsV RX11 349 RX11 yX11_isWave wsX11_isWave) := goodIn_app (goodIn_of _ (by decide +kernel)) ggX11_next_X11_isWave
theorem dX11_next_0 : decode cX11_next 0 = .ok (.aload_n 0, 1) := by decide +kernel
theorem dX11_next_1 : decode cX11_next 1 = .ok (.iload_n 1, 1) := by decide +kernel
theorem dX11_next_2 : decode cX11_next 2 = .ok (.invokevirtual 349, 3) := by decide +kernel
theorem dX11_next_5 : decode cX11_next 5 = .ok (.ifCond .ne 5, 3) := by decide +kernel
theorem dX11_next_8 : decode cX11_next 8 = .ok (.iconst (-1), 1) := by decide +kernel
theorem dX11_next_9 : decode cX11_next 9 = .ok (.ireturn, 1) := by decide +kernel
set_option maxRecDepth 20000 in
theorem ggX11_drawn_X11_isWave : GoodIn wsX11_drawn wsX11_isWave := goodIn_r _ [6, 7, 8, 9, 10, 5, 11, 39, 40, 41, 42, 43, 44, 45, 46, 47, 48, 49, 50, 51, 52, 53, 54, 55, 56, 57, 58, 59, 60, 61, 62, 63, 64, 65, 66, 67, 68, 69, 70, 71, 72, 73, 74, 75, 76, 77, 78, 79, 80, 81, 82, 83, 84, 85, 86, 87, 88, 89, 90, 91, 92, 93, 94, 95, 96] (by decide +kernel) (by decide +kernel)
set_option maxRecDepth 20000 in
theorem gX11_drawn_X11_isWave : GoodIn wsX11_drawn (wsV RX11 349 RX11 yX11_isWave wsX11_isWave) := goodIn_app (goodIn_of _ (by decide +kernel)) ggX11_drawn_X11_isWave
theorem dX11_drawn_0 : decode cX11_drawn 0 = .ok (.aload_n 0, 1) := by decide +kernel
theorem dX11_drawn_1 : decode cX11_drawn 1 = .ok (.iload_n 1, 1) := by decide +kernel
theorem dX11_drawn_2 : decode cX11_drawn 2 = .ok (.invokevirtual 349, 3) := by decide +kernel
theorem dX11_drawn_5 : decode cX11_drawn 5 = .ok (.ifCond .eq 13, 3) := by decide +kernel
theorem dX11_drawn_18 : decode cX11_drawn 18 = .ok (.iconst (-1), 1) := by decide +kernel
theorem dX11_drawn_19 : decode cX11_drawn 19 = .ok (.ireturn, 1) := by decide +kernel
set_option maxRecDepth 20000 in
theorem ggX11_tell_X11_isWave : GoodIn wsX11_tell wsX11_isWave := goodIn_r _ [9, 10, 11, 12, 13, 8, 14, 15, 16, 17, 18, 19, 20, 21, 22, 23, 24, 25, 26, 27, 28, 29, 30, 31, 32, 33, 34, 35, 36, 37, 38, 39, 40, 41, 42, 43, 44, 45, 46, 47, 48, 49, 50, 51, 52, 53, 54, 55, 56, 57, 58, 59, 60, 61, 62, 63, 64, 65, 66, 67, 68, 69, 70, 71, 72] (by decide +kernel) (by decide +kernel)
set_option maxRecDepth 20000 in
theorem gX11_tell_X11_isWave : GoodIn wsX11_tell (wsV RX11 349 RX11 yX11_isWave wsX11_isWave) := goodIn_app (goodIn_of _ (by decide +kernel)) ggX11_tell_X11_isWave
theorem dX11_tell_0 : decode cX11_tell 0 = .ok (.aload_n 0, 1) := by decide +kernel
theorem dX11_tell_1 : decode cX11_tell 1 = .ok (.getfield 233, 3) := by decide +kernel
theorem dX11_tell_4 : decode cX11_tell 4 = .ok (.bipush 20, 2) := by decide +kernel
theorem dX11_tell_6 : decode cX11_tell 6 = .ok (.if_icmp .eq 21, 3) := by decide +kernel
theorem dX11_tell_9 : decode cX11_tell 9 = .ok (.aload_n 0, 1) := by decide +kernel
theorem dX11_tell_10 : decode cX11_tell 10 = .ok (.iload_n 1, 1) := by decide +kernel
theorem dX11_tell_11 : decode cX11_tell 11 = .ok (.invokevirtual 349, 3) := by decide +kernel
theorem dX11_tell_14 : decode cX11_tell 14 = .ok (.ifCond .eq 13, 3) := by decide +kernel
theorem dX11_tell_27 : decode cX11_tell 27 = .ok (.iconst (-1), 1) := by decide +kernel
theorem dX11_tell_28 : decode cX11_tell 28 = .ok (.ireturn, 1) := by decide +kernel
theorem dX11_forget_0 : decode cX11_forget 0 = .ok (.aload_n 0, 1) := by decide +kernel
theorem dX11_forget_1 : decode cX11_forget 1 = .ok (.getfield 233, 3) := by decide +kernel
theorem dX11_forget_4 : decode cX11_forget 4 = .ok (.istore_n 1, 1) := by decide +kernel
theorem dX11_forget_5 : decode cX11_forget 5 = .ok (.aload_n 0, 1) := by decide +kernel
theorem dX11_forget_6 : decode cX11_forget 6 = .ok (.iconst 0, 1) := by decide +kernel
theorem dX11_forget_7 : decode cX11_forget 7 = .ok (.putfield 233, 3) := by decide +kernel
theorem dX11_forget_10 : decode cX11_forget 10 = .ok (.iload_n 1, 1) := by decide +kernel
theorem dX11_forget_11 : decode cX11_forget 11 = .ok (.ireturn, 1) := by decide +kernel
set_option maxRecDepth 20000 in
theorem ggX11_fit_X11_isAsked : GoodIn wsX11_fit wsX11_isAsked := goodIn_r _ [6, 7, 8, 9, 5, 10, 62, 63, 64, 65, 66, 67, 68, 69, 70, 71, 72, 73, 74, 75, 76, 77, 78, 79, 80, 81, 82, 83, 84, 85, 86, 87, 88, 89, 90, 91, 92, 93, 94, 95, 96, 97, 98, 99, 100, 101, 102, 103, 104, 105, 106, 107, 108, 109, 110, 111, 112, 113, 114, 115, 116, 117, 118, 119] (by decide +kernel) (by decide +kernel)
set_option maxRecDepth 20000 in
theorem gX11_fit_X11_isAsked : GoodIn wsX11_fit (wsV RX11 422 RX11 yX11_isAsked wsX11_isAsked) := goodIn_app (goodIn_of _ (by decide +kernel)) ggX11_fit_X11_isAsked
set_option maxRecDepth 20000 in
theorem ggX11_fit_X11_in : GoodIn wsX11_fit wsX11_in := goodIn_r _ [10] (by decide +kernel) (by decide +kernel)
set_option maxRecDepth 20000 in
theorem gX11_fit_X11_in : GoodIn wsX11_fit (va_wsS RX11 281 yX11_in wsX11_in) := goodIn_app (goodIn_of _ (by decide +kernel)) ggX11_fit_X11_in
set_option maxRecDepth 20000 in
theorem ggX11_fit_X11_fillsChances : GoodIn wsX11_fit wsX11_fillsChances := goodIn_r _ [14, 1, 15, 16, 17, 5, 18, 19, 20, 21, 22, 23, 24, 25, 26, 27, 28, 29, 30, 31, 32, 33, 34, 35, 36, 37, 38, 39, 40, 41, 42, 43, 44, 45, 46, 47, 48, 49, 50, 62, 63, 64, 65, 66, 67, 68, 69, 70, 71, 72, 73, 74, 75, 76, 77, 78, 79, 80, 81, 82, 83, 84, 85, 86, 87, 88, 89, 90, 91, 92, 93, 94, 95, 96, 97, 98, 99, 100, 101, 102, 103, 104, 105, 106, 107, 108, 109, 110, 111, 112, 113, 114, 115, 116, 117, 118, 119] (by decide +kernel) (by decide +kernel)
set_option maxRecDepth 20000 in
theorem gX11_fit_X11_fillsChances : GoodIn wsX11_fit (wsV RX11 404 RX11 yX11_fillsChances wsX11_fillsChances) := goodIn_app (goodIn_of _ (by decide +kernel)) ggX11_fit_X11_fillsChances
set_option maxRecDepth 20000 in
theorem ggX11_fit_X11_guesses : GoodIn wsX11_fit wsX11_guesses := goodIn_r _ [27, 28, 29, 22, 62, 63, 64, 65, 66, 67, 68, 69, 70, 71, 72, 73, 74, 75, 76, 77, 78, 79, 80, 81, 82, 83, 84, 85, 86, 87, 88, 89, 90, 91, 92, 93, 94, 95, 96, 97, 98, 99, 100, 101, 102, 103, 104, 105, 106, 107, 108, 109, 110, 111, 112, 113, 114, 115, 116, 117, 118, 119] (by decide +kernel) (by decide +kernel)
set_option maxRecDepth 20000 in
theorem gX11_fit_X11_guesses : GoodIn wsX11_fit (wsV RX11 285 RX11 yX11_guesses wsX11_guesses) := goodIn_app (goodIn_of _ (by decide +kernel)) ggX11_fit_X11_guesses
set_option maxRecDepth 20000 in
theorem ggX11_fit_X11_doesFit : GoodIn wsX11_fit wsX11_doesFit := goodIn_r _ [54, 1, 55, 56, 57, 5, 58, 59, 60, 61, 34, 35, 36, 37, 28, 62, 63, 64, 65, 66, 67, 68, 69, 70, 71, 72, 73, 74, 75, 76, 77, 78, 79, 80, 81, 82, 83, 84, 85, 86, 87, 88, 89, 90, 91, 92, 93, 94, 95, 96, 97, 98, 99, 100, 101, 102, 103, 104, 105, 106, 107, 108, 109, 110, 111, 112, 113, 114, 115, 116, 117, 118, 119] (by decide +kernel) (by decide +kernel)
set_option maxRecDepth 20000 in
theorem gX11_fit_X11_doesFit : GoodIn wsX11_fit (wsV RX11 425 RX11 yX11_doesFit wsX11_doesFit) := goodIn_app (goodIn_of _ (by decide +kernel)) ggX11_fit_X11_doesFit
theorem dX11_fit_0 : decode cX11_fit 0 = .ok (.aload_n 0, 1) := by decide +kernel
theorem dX11_fit_1 : decode cX11_fit 1 = .ok (.iload_n 1, 1) := by decide +kernel
theorem dX11_fit_2 : decode cX11_fit 2 = .ok (.iload_n 2, 1) := by decide +kernel
theorem dX11_fit_3 : decode cX11_fit 3 = .ok (.invokevirtual 422, 3) := by decide +kernel
theorem dX11_fit_6 : decode cX11_fit 6 = .ok (.ifCond .eq 12, 3) := by decide +kernel
theorem dX11_fit_9 : decode cX11_fit 9 = .ok (.iload_n 3, 1) := by decide +kernel
theorem dX11_fit_10 : decode cX11_fit 10 = .ok (.iconst 0, 1) := by decide +kernel
theorem dX11_fit_11 : decode cX11_fit 11 = .ok (.iconst 1, 1) := by decide +kernel
theorem dX11_fit_12 : decode cX11_fit 12 = .ok (.invokestatic 281, 3) := by decide +kernel
theorem dX11_fit_15 : decode cX11_fit 15 = .ok (.ifCond .ne 5, 3) := by decide +kernel
theorem dX11_fit_18 : decode cX11_fit 18 = .ok (.iconst (-1), 1) := by decide +kernel
theorem dX11_fit_19 : decode cX11_fit 19 = .ok (.ireturn, 1) := by decide +kernel
theorem dX11_fit_20 : decode cX11_fit 20 = .ok (.aload_n 0, 1) := by decide +kernel
theorem dX11_fit_21 : decode cX11_fit 21 = .ok (.invokevirtual 404, 3) := by decide +kernel
theorem dX11_fit_24 : decode cX11_fit 24 = .ok (.iconst 0, 1) := by decide +kernel
theorem dX11_fit_25 : decode cX11_fit 25 = .ok (.istore 4, 2) := by decide +kernel
theorem dX11_fit_27 : decode cX11_fit 27 = .ok (.iconst 0, 1) := by decide +kernel
theorem dX11_fit_28 : decode cX11_fit 28 = .ok (.istore 5, 2) := by decide +kernel
theorem dX11_fit_30 : decode cX11_fit 30 = .ok (.iload 5, 2) := by decide +kernel
theorem dX11_fit_32 : decode cX11_fit 32 = .ok (.aload_n 0, 1) := by decide +kernel
theorem dX11_fit_33 : decode cX11_fit 33 = .ok (.invokevirtual 285, 3) := by decide +kernel
theorem dX11_fit_36 : decode cX11_fit 36 = .ok (.if_icmp .ge 40, 3) := by decide +kernel
theorem dX11_fit_39 : decode cX11_fit 39 = .ok (.aload_n 0, 1) := by decide +kernel
theorem dX11_fit_40 : decode cX11_fit 40 = .ok (.iload 5, 2) := by decide +kernel
theorem dX11_fit_42 : decode cX11_fit 42 = .ok (.iload_n 1, 1) := by decide +kernel
theorem dX11_fit_43 : decode cX11_fit 43 = .ok (.iload_n 2, 1) := by decide +kernel
theorem dX11_fit_44 : decode cX11_fit 44 = .ok (.invokevirtual 425, 3) := by decide +kernel
theorem dX11_fit_47 : decode cX11_fit 47 = .ok (.ifCond .eq 23, 3) := by decide +kernel
theorem dX11_fit_50 : decode cX11_fit 50 = .ok (.iload 4, 2) := by decide +kernel
theorem dX11_fit_52 : decode cX11_fit 52 = .ok (.iload_n 3, 1) := by decide +kernel
theorem dX11_fit_53 : decode cX11_fit 53 = .ok (.ifCond .ne 7, 3) := by decide +kernel
theorem dX11_fit_56 : decode cX11_fit 56 = .ok (.iconst 1, 1) := by decide +kernel
theorem dX11_fit_57 : decode cX11_fit 57 = .ok (.goto 10, 3) := by decide +kernel
theorem dX11_fit_60 : decode cX11_fit 60 = .ok (.aload_n 0, 1) := by decide +kernel
theorem dX11_fit_61 : decode cX11_fit 61 = .ok (.getfield 113, 3) := by decide +kernel
theorem dX11_fit_64 : decode cX11_fit 64 = .ok (.iload 5, 2) := by decide +kernel
theorem dX11_fit_66 : decode cX11_fit 66 = .ok (.iaload, 1) := by decide +kernel
theorem dX11_fit_67 : decode cX11_fit 67 = .ok (.iadd, 1) := by decide +kernel
theorem dX11_fit_68 : decode cX11_fit 68 = .ok (.istore 4, 2) := by decide +kernel
theorem dX11_fit_70 : decode cX11_fit 70 = .ok (.iinc 5 1, 3) := by decide +kernel
theorem dX11_fit_73 : decode cX11_fit 73 = .ok (.goto (-43), 3) := by decide +kernel
theorem dX11_fit_76 : decode cX11_fit 76 = .ok (.iload 4, 2) := by decide +kernel
theorem dX11_fit_78 : decode cX11_fit 78 = .ok (.ireturn, 1) := by decide +kernel
set_option maxRecDepth 20000 in
theorem ggX11_lie_X11_isAsked : GoodIn wsX11_lie wsX11_isAsked := goodIn_r _ [5, 6, 7, 8, 4, 9, 62, 63, 64, 65, 66, 67, 68, 69, 70, 71, 72, 73, 74, 75, 76, 77, 78, 79, 80, 81, 82, 83, 84, 85, 86, 87, 88, 89, 90, 91, 92, 93, 94, 95, 96, 97, 98, 99, 100, 101, 102, 103, 104, 105, 106, 107, 108, 109, 110, 111, 112, 113, 114, 115, 116, 117, 118, 119] (by decide +kernel) (by decide +kernel)
set_option maxRecDepth 20000 in
theorem gX11_lie_X11_isAsked : GoodIn wsX11_lie (wsV RX11 422 RX11 yX11_isAsked wsX11_isAsked) := goodIn_app (goodIn_of _ (by decide +kernel)) ggX11_lie_X11_isAsked
set_option maxRecDepth 20000 in
theorem ggX11_lie_X11_fillsChances : GoodIn wsX11_lie wsX11_fillsChances := goodIn_r _ [13, 14, 15, 16, 17, 4, 18, 19, 20, 21, 22, 23, 24, 25, 26, 27, 28, 29, 30, 31, 32, 33, 34, 35, 36, 37, 38, 39, 40, 41, 42, 43, 44, 45, 46, 47, 48, 49, 50, 62, 63, 64, 65, 66, 67, 68, 69, 70, 71, 72, 73, 74, 75, 76, 77, 78, 79, 80, 81, 82, 83, 84, 85, 86, 87, 88, 89, 90, 91, 92, 93, 94, 95, 96, 97, 98, 99, 100, 101, 102, 103, 104, 105, 106, 107, 108, 109, 110, 111, 112, 113, 114, 115, 116, 117, 118, 119] (by decide +kernel) (by decide +kernel)
set_option maxRecDepth 20000 in
theorem gX11_lie_X11_fillsChances : GoodIn wsX11_lie (wsV RX11 404 RX11 yX11_fillsChances wsX11_fillsChances) := goodIn_app (goodIn_of _ (by decide +kernel)) ggX11_lie_X11_fillsChances
set_option maxRecDepth 20000 in
theorem ggX11_lie_X11_guesses : GoodIn wsX11_lie wsX11_guesses := goodIn_r _ [27, 28, 29, 22, 62, 63, 64, 65, 66, 67, 68, 69, 70, 71, 72, 73, 74, 75, 76, 77, 78, 79, 80, 81, 82, 83, 84, 85, 86, 87, 88, 89, 90, 91, 92, 93, 94, 95, 96, 97, 98, 99, 100, 101, 102, 103, 104, 105, 106, 107, 108, 109, 110, 111, 112, 113, 114, 115, 116, 117, 118, 119] (by decide +kernel) (by decide +kernel)
set_option maxRecDepth 20000 in
theorem gX11_lie_X11_guesses : GoodIn wsX11_lie (wsV RX11 285 RX11 yX11_guesses wsX11_guesses) := goodIn_app (goodIn_of _ (by decide +kernel)) ggX11_lie_X11_guesses
set_option maxRecDepth 20000 in
theorem ggX11_lie_X11_doesFit : GoodIn wsX11_lie wsX11_doesFit := goodIn_r _ [54, 14, 55, 56, 57, 4, 58, 59, 60, 61, 34, 35, 36, 37, 28, 62, 63, 64, 65, 66, 67, 68, 69, 70, 71, 72, 73, 74, 75, 76, 77, 78, 79, 80, 81, 82, 83, 84, 85, 86, 87, 88, 89, 90, 91, 92, 93, 94, 95, 96, 97, 98, 99, 100, 101, 102, 103, 104, 105, 106, 107, 108, 109, 110, 111, 112, 113, 114, 115, 116, 117, 118, 119] (by decide +kernel) (by decide +kernel)
set_option maxRecDepth 20000 in
theorem gX11_lie_X11_doesFit : GoodIn wsX11_lie (wsV RX11 425 RX11 yX11_doesFit wsX11_doesFit) := goodIn_app (goodIn_of _ (by decide +kernel)) ggX11_lie_X11_doesFit
theorem dX11_lie_0 : decode cX11_lie 0 = .ok (.aload_n 0, 1) := by decide +kernel
theorem dX11_lie_1 : decode cX11_lie 1 = .ok (.iload_n 1, 1) := by decide +kernel
theorem dX11_lie_2 : decode cX11_lie 2 = .ok (.iload_n 2, 1) := by decide +kernel
theorem dX11_lie_3 : decode cX11_lie 3 = .ok (.invokevirtual 422, 3) := by decide +kernel
theorem dX11_lie_6 : decode cX11_lie 6 = .ok (.ifCond .ne 5, 3) := by decide +kernel
theorem dX11_lie_9 : decode cX11_lie 9 = .ok (.iconst (-1), 1) := by decide +kernel
theorem dX11_lie_10 : decode cX11_lie 10 = .ok (.ireturn, 1) := by decide +kernel
theorem dX11_lie_11 : decode cX11_lie 11 = .ok (.aload_n 0, 1) := by decide +kernel
theorem dX11_lie_12 : decode cX11_lie 12 = .ok (.invokevirtual 404, 3) := by decide +kernel
theorem dX11_lie_15 : decode cX11_lie 15 = .ok (.iconst 1, 1) := by decide +kernel
theorem dX11_lie_16 : decode cX11_lie 16 = .ok (.iload_n 1, 1) := by decide +kernel
theorem dX11_lie_17 : decode cX11_lie 17 = .ok (.ishl, 1) := by decide +kernel
theorem dX11_lie_18 : decode cX11_lie 18 = .ok (.iconst 1, 1) := by decide +kernel
theorem dX11_lie_19 : decode cX11_lie 19 = .ok (.isub, 1) := by decide +kernel
theorem dX11_lie_20 : decode cX11_lie 20 = .ok (.istore_n 3, 1) := by decide +kernel
theorem dX11_lie_21 : decode cX11_lie 21 = .ok (.iconst 0, 1) := by decide +kernel
theorem dX11_lie_22 : decode cX11_lie 22 = .ok (.istore 4, 2) := by decide +kernel
theorem dX11_lie_24 : decode cX11_lie 24 = .ok (.iload 4, 2) := by decide +kernel
theorem dX11_lie_26 : decode cX11_lie 26 = .ok (.aload_n 0, 1) := by decide +kernel
theorem dX11_lie_27 : decode cX11_lie 27 = .ok (.invokevirtual 285, 3) := by decide +kernel
theorem dX11_lie_30 : decode cX11_lie 30 = .ok (.if_icmp .ge 58, 3) := by decide +kernel
theorem dX11_lie_33 : decode cX11_lie 33 = .ok (.aload_n 0, 1) := by decide +kernel
theorem dX11_lie_34 : decode cX11_lie 34 = .ok (.iload 4, 2) := by decide +kernel
theorem dX11_lie_36 : decode cX11_lie 36 = .ok (.iload_n 1, 1) := by decide +kernel
theorem dX11_lie_37 : decode cX11_lie 37 = .ok (.iload_n 2, 1) := by decide +kernel
theorem dX11_lie_38 : decode cX11_lie 38 = .ok (.invokevirtual 425, 3) := by decide +kernel
theorem dX11_lie_41 : decode cX11_lie 41 = .ok (.ifCond .ne 6, 3) := by decide +kernel
theorem dX11_lie_47 : decode cX11_lie 47 = .ok (.iconst 0, 1) := by decide +kernel
theorem dX11_lie_48 : decode cX11_lie 48 = .ok (.istore 5, 2) := by decide +kernel
theorem dX11_lie_50 : decode cX11_lie 50 = .ok (.iload 5, 2) := by decide +kernel
theorem dX11_lie_52 : decode cX11_lie 52 = .ok (.iload_n 1, 1) := by decide +kernel
theorem dX11_lie_53 : decode cX11_lie 53 = .ok (.if_icmp .ge 29, 3) := by decide +kernel
theorem dX11_lie_82 : decode cX11_lie 82 = .ok (.iinc 4 1, 3) := by decide +kernel
theorem dX11_lie_85 : decode cX11_lie 85 = .ok (.goto (-61), 3) := by decide +kernel
theorem dX11_lie_88 : decode cX11_lie 88 = .ok (.iload_n 3, 1) := by decide +kernel
theorem dX11_lie_89 : decode cX11_lie 89 = .ok (.ireturn, 1) := by decide +kernel
set_option maxHeartbeats 4000000 in
set_option maxRecDepth 100000 in
theorem c_share (l : Launch) (dC : Nat → ClassId) (dI : Nat → Nat → Nat) (cB cI cJ cZ cS : ClassId) (h : Nat) (a : Nat → Nat) (v : Nat → Int32) (f : Nat → Nat → Int32) (g : Nat → Nat → Int64) (hv18 : v 18 = 0) (hf20_0 : f 20 0 = 0) (x1 : Int32) (x2 : Int32) : CI l yX11_share wsX11_share ({ frames := 2, cells := 0, slots := 0, locals := 43 }) (dC, dI) (tysA cB cI cJ cZ cS) (mw cB cI cJ cZ h a v f g) [.ref h, .int x1, .int x2] (fun r _ => r = (-1)) := by
  refine open_I (cc := cX11_share) (maxL := 5) (ret := (some .int)) (by decide) rfl (Nat.le_of_ble_eq_true rfl) ?_
  intro p e s m below meth c A ls E
  obtain ⟨C, hr, hlocks, hnm, hA, hP, hK, hD, hN, hl⟩ := E
  obtain ⟨hx, hb, hml, hown, hts⟩ := id C
  have hS : va_S A s.heap s.heap [] := va_S.rf
  have hl : lv_has ls 5 [(0, .ref h), (1, .int x1), (2, .int x2)] := hl
  refine lv_aload_n hx hb dX11_share_0 rfl (lv_at hl 0 rfl) ?_
  refine lv_iload_n hx hb dX11_share_1 rfl (lv_at hl 1 rfl) ?_
  refine q_goiF (va_runV (As := [.int x1]) (rest := []) C (c_isWave l dC dI cB cI cJ cZ cS h a v f g hv18 hf20_0 x1 _) (cwV 1 hts gX11_share_X11_isWave rfl rfl rfl (by decide +kernel) ⟨Nat.le_of_ble_eq_true rfl, Nat.le_of_ble_eq_true rfl⟩) (q_preV hK hP (ci := 11) (q0 := 0) rfl rfl rfl (q_preF hN hK hP hD)) rfl rfl hl.1 rfl (lv_room (Nat.le_of_ble_eq_true rfl)) dX11_share_2 ⟨Nat.le_of_ble_eq_true rfl, Nat.le_of_ble_eq_true rfl⟩) hD hS hA (fun r w1 H locs hw hP hD hS => ?_)
  obtain ⟨rfl, rfl⟩ := hw
  refine lv_if_eq (tgt := 15) hx hb dX11_share_5 (by decide) (fun _ => ?_) (fun h => absurd (by decide +kernel) h)
  refine lv_iconst (v := (-1)) hx hb dX11_share_15 (by decide) ?_
  exact q_iret C hr hlocks hK hP hD hS (Nat.le_of_ble_eq_true rfl) (Nat.le_of_ble_eq_true rfl) dX11_share_16 (rfl)

set_option maxHeartbeats 4000000 in
set_option maxRecDepth 100000 in
theorem c_sure (l : Launch) (dC : Nat → ClassId) (dI : Nat → Nat → Nat) (cB cI cJ cZ cS : ClassId) (h : Nat) (a : Nat → Nat) (v : Nat → Int32) (f : Nat → Nat → Int32) (g : Nat → Nat → Int64) (hv18 : v 18 = 0) (hf23_0 : f 23 0 = 0) (x1 : Int32) (x2 : Int32) : CI l yX11_sure wsX11_sure ({ frames := 3, cells := 0, slots := 0, locals := 64 }) (dC, dI) (tysA cB cI cJ cZ cS) (mw cB cI cJ cZ h a v f g) [.ref h, .int x1, .int x2] (fun r _ => r = (-1)) := by
  refine open_I (cc := cX11_sure) (maxL := 5) (ret := (some .int)) (by decide) rfl (Nat.le_of_ble_eq_true rfl) ?_
  intro p e s m below meth c A ls E
  obtain ⟨C, hr, hlocks, hnm, hA, hP, hK, hD, hN, hl⟩ := E
  obtain ⟨hx, hb, hml, hown, hts⟩ := id C
  have hS : va_S A s.heap s.heap [] := va_S.rf
  have hl : lv_has ls 5 [(0, .ref h), (1, .int x1), (2, .int x2)] := hl
  refine lv_aload_n hx hb dX11_sure_0 rfl (lv_at hl 0 rfl) ?_
  refine lv_iload_n hx hb dX11_sure_1 rfl (lv_at hl 1 rfl) ?_
  refine q_goiF (va_runV (As := [.int x1]) (rest := []) C (c_isHere l dC dI cB cI cJ cZ cS h a v f g hv18 hf23_0 x1 _) (cwV 1 hts gX11_sure_X11_isHere rfl rfl rfl (by decide +kernel) ⟨Nat.le_of_ble_eq_true rfl, Nat.le_of_ble_eq_true rfl⟩) (q_preV hK hP (ci := 11) (q0 := 0) rfl rfl rfl (q_preF hN hK hP hD)) rfl rfl hl.1 rfl (lv_room (Nat.le_of_ble_eq_true rfl)) dX11_sure_2 ⟨Nat.le_of_ble_eq_true rfl, Nat.le_of_ble_eq_true rfl⟩) hD hS hA (fun r w1 H locs hw hP hD hS => ?_)
  obtain ⟨rfl, rfl⟩ := hw
  refine lv_if_eq (tgt := 30) hx hb dX11_sure_5 (by decide) (fun _ => ?_) (fun h => absurd (by decide +kernel) h)
  refine lv_iconst (v := (-1)) hx hb dX11_sure_30 (by decide) ?_
  exact q_iret C hr hlocks hK hP hD hS (Nat.le_of_ble_eq_true rfl) (Nat.le_of_ble_eq_true rfl) dX11_sure_31 (rfl)

set_option maxHeartbeats 4000000 in
set_option maxRecDepth 100000 in
theorem c_alike (l : Launch) (dC : Nat → ClassId) (dI : Nat → Nat → Nat) (cB cI cJ cZ cS : ClassId) (h : Nat) (a : Nat → Nat) (v : Nat → Int32) (f : Nat → Nat → Int32) (g : Nat → Nat → Int64) (hv18 : v 18 = 0) (hf20_0 : f 20 0 = 0) (hf46_0 : f 46 0 = 1) (x1 : Int32) (x2 : Int32) : CI l yX11_alike wsX11_alike ({ frames := 2, cells := 0, slots := 0, locals := 43 }) (dC, dI) (tysA cB cI cJ cZ cS) (mw cB cI cJ cZ h a v f g) [.ref h, .int x1, .int x2] (fun r _ => r = (fr_alike x1 x2)) := by
  refine open_I (cc := cX11_alike) (maxL := 4) (ret := (some .int)) (by decide) rfl (Nat.le_of_ble_eq_true rfl) ?_
  intro p e s m below meth c A ls E
  obtain ⟨C, hr, hlocks, hnm, hA, hP, hK, hD, hN, hl⟩ := E
  obtain ⟨hx, hb, hml, hown, hts⟩ := id C
  have hS : va_S A s.heap s.heap [] := va_S.rf
  have hl : lv_has ls 4 [(0, .ref h), (1, .int x1), (2, .int x2)] := hl
  have inX11 : ∀ w ∈ u_ws RX11 TX11 58, w ∈ wsX11_alike := fun _ h => List.mem_cons_of_mem _ (List.mem_append_right _ h)
  have L215 : Cond.fieldLink RX11 215 "GuessFerryModel" "live" "I" ∈ wsX11_alike := by decide +kernel
  have L40 : Cond.fieldLink RX11 40 "GuessFerryModel" "waves" "[I" ∈ wsX11_alike := by decide +kernel
  refine lv_aload_n hx hb dX11_alike_0 rfl (lv_at hl 0 rfl) ?_
  refine lv_iload_n hx hb dX11_alike_1 rfl (lv_at hl 1 rfl) ?_
  refine q_goiF (va_runV (As := [.int x1]) (rest := []) C (c_isGuess l dC dI cB cI cJ cZ cS h a v f g hv18 hf20_0 hf46_0 x1 _) (cwV 1 hts gX11_alike_X11_isGuess rfl rfl rfl (by decide +kernel) ⟨Nat.le_of_ble_eq_true rfl, Nat.le_of_ble_eq_true rfl⟩) (q_preV hK hP (ci := 11) (q0 := 0) rfl rfl rfl (q_preF hN hK hP hD)) rfl rfl hl.1 rfl (lv_room (Nat.le_of_ble_eq_true rfl)) dX11_alike_2 ⟨Nat.le_of_ble_eq_true rfl, Nat.le_of_ble_eq_true rfl⟩) hD hS hA (fun r w1 H locs hw hP hD hS => ?_)
  obtain ⟨rfl, rfl⟩ := hw
  refine lv_if_eq (tgt := 16) hx hb dX11_alike_5 (by decide) (fun c1 => ?_) (fun c1 => ?_)
  · skip
    refine lv_iconst (v := (-1)) hx hb dX11_alike_16 (by decide) ?_
    exact q_iret C hr hlocks hK hP hD hS (Nat.le_of_ble_eq_true rfl) (Nat.le_of_ble_eq_true rfl) dX11_alike_17 (by unfold fr_alike; rw [if_pos c1])
  · skip
    obtain rfl : x1 = 0 := sp_in_00 c1
    refine lv_aload_n hx hb dX11_alike_8 rfl (lv_at hl 0 rfl) ?_
    refine lv_iload_n hx hb dX11_alike_9 rfl (lv_at hl 2 rfl) ?_
    refine q_goiF (va_runV (As := [.int x2]) (rest := []) C (c_isGuess l dC dI cB cI cJ cZ cS h a v f g hv18 hf20_0 hf46_0 x2 _) (cwV 1 hts gX11_alike_X11_isGuess rfl rfl rfl (by decide +kernel) ⟨Nat.le_of_ble_eq_true rfl, Nat.le_of_ble_eq_true rfl⟩) (q_preV hK hP (ci := 11) (q0 := 0) rfl rfl rfl (q_preF hN hK hP hD)) rfl rfl hl.1 rfl (lv_room (Nat.le_of_ble_eq_true rfl)) dX11_alike_10 ⟨Nat.le_of_ble_eq_true rfl, Nat.le_of_ble_eq_true rfl⟩) hD hS hA (fun r w1 H locs hw hP hD hS => ?_)
    obtain ⟨rfl, rfl⟩ := hw
    refine lv_if_ne (tgt := 18) hx hb dX11_alike_13 (by decide) (fun c2 => ?_) (fun c2 => ?_)
    · skip
      obtain rfl : x2 = 0 := sp_in_00 c2
      refine lv_iconst (v := 0) hx hb dX11_alike_18 (by decide) ?_
      refine lv_istore_n (lv' := [(3, .int 0), (0, .ref h), (1, .int 0), (2, .int 0)]) hx hb dX11_alike_19 rfl hl (by decide) rfl (fun ls hl => ?_)
      refine lv_iload_n hx hb dX11_alike_20 rfl (lv_at hl 0 rfl) ?_
      refine lv_aload_n hx hb dX11_alike_21 rfl (lv_at hl 1 rfl) ?_
      refine q_get (v := .ref (a 20)) C inX11 hK hP 0 rfl rfl 20 (by decide) rfl L40 rfl dX11_alike_22 ?_
      refine lv_aload_n hx hb dX11_alike_25 rfl (lv_at hl 1 rfl) ?_
      refine q_get (v := .int (v 18)) C inX11 hK hP 0 rfl rfl 18 (by decide) rfl L215 rfl dX11_alike_26 ?_
      refine q_top (y := 0) (hv18) ?_
      refine q_iald (x := 0) C hK hP 8 1 rfl rfl (vp_lit (by decide +kernel)) dX11_alike_29 (hf20_0) ?_
      refine lv_icmp_ge (tgt := 54) hx hb dX11_alike_30 (by decide) (fun _ => ?_) (fun h => absurd (by decide +kernel) h)
      refine lv_iload_n hx hb dX11_alike_54 rfl (lv_at hl 0 rfl) ?_
      exact q_iret C hr hlocks hK hP hD hS (Nat.le_of_ble_eq_true rfl) (Nat.le_of_ble_eq_true rfl) dX11_alike_55 (by decide +kernel)
    · skip
      refine lv_iconst (v := (-1)) hx hb dX11_alike_16 (by decide) ?_
      exact q_iret C hr hlocks hK hP hD hS (Nat.le_of_ble_eq_true rfl) (Nat.le_of_ble_eq_true rfl) dX11_alike_17 (by unfold fr_alike; rw [if_neg (by decide +kernel), if_pos c2])

set_option maxHeartbeats 4000000 in
set_option maxRecDepth 100000 in
theorem c_stuck (l : Launch) (dC : Nat → ClassId) (dI : Nat → Nat → Nat) (cB cI cJ cZ cS : ClassId) (h : Nat) (a : Nat → Nat) (v : Nat → Int32) (f : Nat → Nat → Int32) (g : Nat → Nat → Int64) (hv18 : v 18 = 0) (hf26_0 : f 26 0 = 0) (hv45 : v 45 = 0) (hf23_0 : f 23 0 = 0) (hrow : ∀ j, j < 29 → f 44 j = f 43 j) : CI l yX11_stuck wsX11_stuck ({ frames := 1, cells := 0, slots := 0, locals := 21 }) (dC, dI) (tysA cB cI cJ cZ cS) (mw cB cI cJ cZ h a v f g) [.ref h] (fun r _ => r = 0) := by
  refine open_I (cc := cX11_stuck) (maxL := 3) (ret := (some .int)) (by decide) rfl (Nat.le_of_ble_eq_true rfl) ?_
  intro p e s m below meth c A ls E
  obtain ⟨C, hr, hlocks, hnm, hA, hP, hK, hD, hN, hl⟩ := E
  obtain ⟨hx, hb, hml, hown, hts⟩ := id C
  have hS : va_S A s.heap s.heap [] := va_S.rf
  have hl : lv_has ls 3 [(0, .ref h)] := hl
  have inX11 : ∀ w ∈ u_ws RX11 TX11 58, w ∈ wsX11_stuck := by decide +kernel
  have L215 : Cond.fieldLink RX11 215 "GuessFerryModel" "live" "I" ∈ wsX11_stuck := by decide +kernel
  have L49 : Cond.fieldLink RX11 49 "GuessFerryModel" "parties" "[I" ∈ wsX11_stuck := by decide +kernel
  refine lv_aload_n hx hb dX11_stuck_0 rfl (lv_at hl 0 rfl) ?_
  refine q_govF (va_runV (As := []) (rest := []) C (c_copies l dC dI cB cI cJ cZ cS h a v f g hv18 hf26_0 hv45 (hrow) _) (cwV 0 hts gX11_stuck_X11_copies rfl rfl rfl (by decide +kernel) ⟨Nat.le_of_ble_eq_true rfl, Nat.le_of_ble_eq_true rfl⟩) (q_preV hK hP (ci := 11) (q0 := 0) rfl rfl rfl (q_preF hN hK hP hD)) rfl rfl hl.1 rfl (lv_room (Nat.le_of_ble_eq_true rfl)) dX11_stuck_1 ⟨Nat.le_of_ble_eq_true rfl, Nat.le_of_ble_eq_true rfl⟩) hD hS hA (fun w1 H locs hw hP hD hS => ?_)
  obtain rfl := hw
  refine lv_iconst (v := 0) hx hb dX11_stuck_4 (by decide) ?_
  refine lv_istore_n (lv' := [(1, .int 0), (0, .ref h)]) hx hb dX11_stuck_5 rfl hl (by decide) rfl (fun ls hl => ?_)
  refine lv_iconst (v := 0) hx hb dX11_stuck_6 (by decide) ?_
  refine lv_istore_n (lv' := [(2, .int 0), (1, .int 0), (0, .ref h)]) hx hb dX11_stuck_7 rfl hl (by decide) rfl (fun ls hl => ?_)
  refine lv_iload_n hx hb dX11_stuck_8 rfl (lv_at hl 0 rfl) ?_
  refine lv_aload_n hx hb dX11_stuck_9 rfl (lv_at hl 2 rfl) ?_
  refine q_get (v := .ref (a 23)) C inX11 hK hP 0 rfl rfl 23 (by decide) rfl L49 rfl dX11_stuck_10 ?_
  refine lv_aload_n hx hb dX11_stuck_13 rfl (lv_at hl 2 rfl) ?_
  refine q_get (v := .int (v 18)) C inX11 hK hP 0 rfl rfl 18 (by decide) rfl L215 rfl dX11_stuck_14 ?_
  refine q_top (y := 0) (hv18) ?_
  refine q_iald (x := 0) C hK hP 11 1 rfl rfl (vp_lit (by decide +kernel)) dX11_stuck_17 (hf23_0) ?_
  refine lv_icmp_ge (tgt := 49) hx hb dX11_stuck_18 (by decide) (fun _ => ?_) (fun h => absurd (by decide +kernel) h)
  refine lv_iload_n hx hb dX11_stuck_49 rfl (lv_at hl 1 rfl) ?_
  exact q_iret C hr hlocks hK hP hD hS (Nat.le_of_ble_eq_true rfl) (Nat.le_of_ble_eq_true rfl) dX11_stuck_50 (rfl)

set_option maxHeartbeats 4000000 in
set_option maxRecDepth 100000 in
theorem c_spread (l : Launch) (dC : Nat → ClassId) (dI : Nat → Nat → Nat) (cB cI cJ cZ cS : ClassId) (h : Nat) (a : Nat → Nat) (v : Nat → Int32) (f : Nat → Nat → Int32) (g : Nat → Nat → Int64) (hv18 : v 18 = 0) (hf20_0 : f 20 0 = 0) (x1 : Int32) : CI l yX11_spread wsX11_spread ({ frames := 2, cells := 0, slots := 0, locals := 43 }) (dC, dI) (tysA cB cI cJ cZ cS) (mw cB cI cJ cZ h a v f g) [.ref h, .int x1] (fun r _ => r = (-1)) := by
  refine open_I (cc := cX11_spread) (maxL := 5) (ret := (some .int)) (by decide) rfl (Nat.le_of_ble_eq_true rfl) ?_
  intro p e s m below meth c A ls E
  obtain ⟨C, hr, hlocks, hnm, hA, hP, hK, hD, hN, hl⟩ := E
  obtain ⟨hx, hb, hml, hown, hts⟩ := id C
  have hS : va_S A s.heap s.heap [] := va_S.rf
  have hl : lv_has ls 5 [(0, .ref h), (1, .int x1)] := hl
  refine lv_aload_n hx hb dX11_spread_0 rfl (lv_at hl 0 rfl) ?_
  refine lv_iload_n hx hb dX11_spread_1 rfl (lv_at hl 1 rfl) ?_
  refine q_goiF (va_runV (As := [.int x1]) (rest := []) C (c_isWave l dC dI cB cI cJ cZ cS h a v f g hv18 hf20_0 x1 _) (cwV 1 hts gX11_spread_X11_isWave rfl rfl rfl (by decide +kernel) ⟨Nat.le_of_ble_eq_true rfl, Nat.le_of_ble_eq_true rfl⟩) (q_preV hK hP (ci := 11) (q0 := 0) rfl rfl rfl (q_preF hN hK hP hD)) rfl rfl hl.1 rfl (lv_room (Nat.le_of_ble_eq_true rfl)) dX11_spread_2 ⟨Nat.le_of_ble_eq_true rfl, Nat.le_of_ble_eq_true rfl⟩) hD hS hA (fun r w1 H locs hw hP hD hS => ?_)
  obtain ⟨rfl, rfl⟩ := hw
  refine lv_if_ne (tgt := 10) hx hb dX11_spread_5 (by decide) (fun h => absurd (by decide +kernel) h) (fun _ => ?_)
  refine lv_iconst (v := (-1)) hx hb dX11_spread_8 (by decide) ?_
  exact q_iret C hr hlocks hK hP hD hS (Nat.le_of_ble_eq_true rfl) (Nat.le_of_ble_eq_true rfl) dX11_spread_9 (rfl)

set_option maxHeartbeats 4000000 in
set_option maxRecDepth 100000 in
theorem c_chosen (l : Launch) (dC : Nat → ClassId) (dI : Nat → Nat → Nat) (cB cI cJ cZ cS : ClassId) (h : Nat) (a : Nat → Nat) (v : Nat → Int32) (f : Nat → Nat → Int32) (g : Nat → Nat → Int64) (hv18 : v 18 = 0) (hf26_0 : f 26 0 = 0) (hv45 : v 45 = 0) (hf23_0 : f 23 0 = 0) (hrow : ∀ j, j < 29 → f 44 j = f 43 j) : CI l yX11_chosen wsX11_chosen ({ frames := 1, cells := 0, slots := 0, locals := 21 }) (dC, dI) (tysA cB cI cJ cZ cS) (mw cB cI cJ cZ h a v f g) [.ref h] (fun r _ => r = (-2)) := by
  refine open_I (cc := cX11_chosen) (maxL := 5) (ret := (some .int)) (by decide) rfl (Nat.le_of_ble_eq_true rfl) ?_
  intro p e s m below meth c A ls E
  obtain ⟨C, hr, hlocks, hnm, hA, hP, hK, hD, hN, hl⟩ := E
  obtain ⟨hx, hb, hml, hown, hts⟩ := id C
  have hS : va_S A s.heap s.heap [] := va_S.rf
  have hl : lv_has ls 5 [(0, .ref h)] := hl
  have inX11 : ∀ w ∈ u_ws RX11 TX11 58, w ∈ wsX11_chosen := by decide +kernel
  have L215 : Cond.fieldLink RX11 215 "GuessFerryModel" "live" "I" ∈ wsX11_chosen := by decide +kernel
  have L49 : Cond.fieldLink RX11 49 "GuessFerryModel" "parties" "[I" ∈ wsX11_chosen := by decide +kernel
  refine lv_aload_n hx hb dX11_chosen_0 rfl (lv_at hl 0 rfl) ?_
  refine q_govF (va_runV (As := []) (rest := []) C (c_copies l dC dI cB cI cJ cZ cS h a v f g hv18 hf26_0 hv45 (hrow) _) (cwV 0 hts gX11_chosen_X11_copies rfl rfl rfl (by decide +kernel) ⟨Nat.le_of_ble_eq_true rfl, Nat.le_of_ble_eq_true rfl⟩) (q_preV hK hP (ci := 11) (q0 := 0) rfl rfl rfl (q_preF hN hK hP hD)) rfl rfl hl.1 rfl (lv_room (Nat.le_of_ble_eq_true rfl)) dX11_chosen_1 ⟨Nat.le_of_ble_eq_true rfl, Nat.le_of_ble_eq_true rfl⟩) hD hS hA (fun w1 H locs hw hP hD hS => ?_)
  obtain rfl := hw
  refine lv_bipush (v := (-2)) hx hb dX11_chosen_4 (by decide) ?_
  refine lv_istore_n (lv' := [(1, .int (-2)), (0, .ref h)]) hx hb dX11_chosen_6 rfl hl (by decide) rfl (fun ls hl => ?_)
  refine lv_iconst (v := 0) hx hb dX11_chosen_7 (by decide) ?_
  refine lv_istore_n (lv' := [(2, .int 0), (1, .int (-2)), (0, .ref h)]) hx hb dX11_chosen_8 rfl hl (by decide) rfl (fun ls hl => ?_)
  refine lv_iconst (v := 0) hx hb dX11_chosen_9 (by decide) ?_
  refine lv_istore_n (lv' := [(3, .int 0), (2, .int 0), (1, .int (-2)), (0, .ref h)]) hx hb dX11_chosen_10 rfl hl (by decide) rfl (fun ls hl => ?_)
  refine lv_iload_n hx hb dX11_chosen_11 rfl (lv_at hl 0 rfl) ?_
  refine lv_aload_n hx hb dX11_chosen_12 rfl (lv_at hl 3 rfl) ?_
  refine q_get (v := .ref (a 23)) C inX11 hK hP 0 rfl rfl 23 (by decide) rfl L49 rfl dX11_chosen_13 ?_
  refine lv_aload_n hx hb dX11_chosen_16 rfl (lv_at hl 3 rfl) ?_
  refine q_get (v := .int (v 18)) C inX11 hK hP 0 rfl rfl 18 (by decide) rfl L215 rfl dX11_chosen_17 ?_
  refine q_top (y := 0) (hv18) ?_
  refine q_iald (x := 0) C hK hP 11 1 rfl rfl (vp_lit (by decide +kernel)) dX11_chosen_20 (hf23_0) ?_
  refine lv_icmp_ge (tgt := 81) hx hb dX11_chosen_21 (by decide) (fun _ => ?_) (fun h => absurd (by decide +kernel) h)
  refine lv_iload_n hx hb dX11_chosen_81 rfl (lv_at hl 2 rfl) ?_
  exact q_iret C hr hlocks hK hP hD hS (Nat.le_of_ble_eq_true rfl) (Nat.le_of_ble_eq_true rfl) dX11_chosen_82 (rfl)

set_option maxHeartbeats 4000000 in
set_option maxRecDepth 100000 in
theorem c_darers (l : Launch) (dC : Nat → ClassId) (dI : Nat → Nat → Nat) (cB cI cJ cZ cS : ClassId) (h : Nat) (a : Nat → Nat) (v : Nat → Int32) (f : Nat → Nat → Int32) (g : Nat → Nat → Int64) (hv18 : v 18 = 0) (hf26_0 : f 26 0 = 0) (hv45 : v 45 = 0) (hf23_0 : f 23 0 = 0) (hrow : ∀ j, j < 29 → f 44 j = f 43 j) : CI l yX11_darers wsX11_darers ({ frames := 1, cells := 0, slots := 0, locals := 21 }) (dC, dI) (tysA cB cI cJ cZ cS) (mw cB cI cJ cZ h a v f g) [.ref h] (fun r _ => r = 0) := by
  refine open_I (cc := cX11_darers) (maxL := 3) (ret := (some .int)) (by decide) rfl (Nat.le_of_ble_eq_true rfl) ?_
  intro p e s m below meth c A ls E
  obtain ⟨C, hr, hlocks, hnm, hA, hP, hK, hD, hN, hl⟩ := E
  obtain ⟨hx, hb, hml, hown, hts⟩ := id C
  have hS : va_S A s.heap s.heap [] := va_S.rf
  have hl : lv_has ls 3 [(0, .ref h)] := hl
  have inX11 : ∀ w ∈ u_ws RX11 TX11 58, w ∈ wsX11_darers := by decide +kernel
  have L215 : Cond.fieldLink RX11 215 "GuessFerryModel" "live" "I" ∈ wsX11_darers := by decide +kernel
  have L49 : Cond.fieldLink RX11 49 "GuessFerryModel" "parties" "[I" ∈ wsX11_darers := by decide +kernel
  refine lv_aload_n hx hb dX11_darers_0 rfl (lv_at hl 0 rfl) ?_
  refine q_govF (va_runV (As := []) (rest := []) C (c_copies l dC dI cB cI cJ cZ cS h a v f g hv18 hf26_0 hv45 (hrow) _) (cwV 0 hts gX11_darers_X11_copies rfl rfl rfl (by decide +kernel) ⟨Nat.le_of_ble_eq_true rfl, Nat.le_of_ble_eq_true rfl⟩) (q_preV hK hP (ci := 11) (q0 := 0) rfl rfl rfl (q_preF hN hK hP hD)) rfl rfl hl.1 rfl (lv_room (Nat.le_of_ble_eq_true rfl)) dX11_darers_1 ⟨Nat.le_of_ble_eq_true rfl, Nat.le_of_ble_eq_true rfl⟩) hD hS hA (fun w1 H locs hw hP hD hS => ?_)
  obtain rfl := hw
  refine lv_iconst (v := 0) hx hb dX11_darers_4 (by decide) ?_
  refine lv_istore_n (lv' := [(1, .int 0), (0, .ref h)]) hx hb dX11_darers_5 rfl hl (by decide) rfl (fun ls hl => ?_)
  refine lv_iconst (v := 0) hx hb dX11_darers_6 (by decide) ?_
  refine lv_istore_n (lv' := [(2, .int 0), (1, .int 0), (0, .ref h)]) hx hb dX11_darers_7 rfl hl (by decide) rfl (fun ls hl => ?_)
  refine lv_iload_n hx hb dX11_darers_8 rfl (lv_at hl 0 rfl) ?_
  refine lv_aload_n hx hb dX11_darers_9 rfl (lv_at hl 2 rfl) ?_
  refine q_get (v := .ref (a 23)) C inX11 hK hP 0 rfl rfl 23 (by decide) rfl L49 rfl dX11_darers_10 ?_
  refine lv_aload_n hx hb dX11_darers_13 rfl (lv_at hl 2 rfl) ?_
  refine q_get (v := .int (v 18)) C inX11 hK hP 0 rfl rfl 18 (by decide) rfl L215 rfl dX11_darers_14 ?_
  refine q_top (y := 0) (hv18) ?_
  refine q_iald (x := 0) C hK hP 11 1 rfl rfl (vp_lit (by decide +kernel)) dX11_darers_17 (hf23_0) ?_
  refine lv_icmp_ge (tgt := 49) hx hb dX11_darers_18 (by decide) (fun _ => ?_) (fun h => absurd (by decide +kernel) h)
  refine lv_iload_n hx hb dX11_darers_49 rfl (lv_at hl 1 rfl) ?_
  exact q_iret C hr hlocks hK hP hD hS (Nat.le_of_ble_eq_true rfl) (Nat.le_of_ble_eq_true rfl) dX11_darers_50 (rfl)

set_option maxHeartbeats 4000000 in
set_option maxRecDepth 100000 in
theorem c_open (l : Launch) (dC : Nat → ClassId) (dI : Nat → Nat → Nat) (cB cI cJ cZ cS : ClassId) (h : Nat) (a : Nat → Nat) (v : Nat → Int32) (f : Nat → Nat → Int32) (g : Nat → Nat → Int64) (hv18 : v 18 = 0) (hf26_0 : f 26 0 = 0) (hv45 : v 45 = 0) (hf20_0 : f 20 0 = 0) (hrow : ∀ j, j < 29 → f 44 j = f 43 j) : CI l yX11_open wsX11_open ({ frames := 1, cells := 0, slots := 0, locals := 21 }) (dC, dI) (tysA cB cI cJ cZ cS) (mw cB cI cJ cZ h a v f g) [.ref h] (fun r _ => r = 0) := by
  refine open_I (cc := cX11_open) (maxL := 3) (ret := (some .int)) (by decide) rfl (Nat.le_of_ble_eq_true rfl) ?_
  intro p e s m below meth c A ls E
  obtain ⟨C, hr, hlocks, hnm, hA, hP, hK, hD, hN, hl⟩ := E
  obtain ⟨hx, hb, hml, hown, hts⟩ := id C
  have hS : va_S A s.heap s.heap [] := va_S.rf
  have hl : lv_has ls 3 [(0, .ref h)] := hl
  have inX11 : ∀ w ∈ u_ws RX11 TX11 58, w ∈ wsX11_open := fun _ h => List.mem_cons_of_mem _ (List.mem_append_right _ h)
  have L215 : Cond.fieldLink RX11 215 "GuessFerryModel" "live" "I" ∈ wsX11_open := by decide +kernel
  have L40 : Cond.fieldLink RX11 40 "GuessFerryModel" "waves" "[I" ∈ wsX11_open := by decide +kernel
  refine lv_aload_n hx hb dX11_open_0 rfl (lv_at hl 0 rfl) ?_
  refine q_govF (va_runV (As := []) (rest := []) C (c_copies l dC dI cB cI cJ cZ cS h a v f g hv18 hf26_0 hv45 (hrow) _) (cwV 0 hts gX11_open_X11_copies rfl rfl rfl (by decide +kernel) ⟨Nat.le_of_ble_eq_true rfl, Nat.le_of_ble_eq_true rfl⟩) (q_preV hK hP (ci := 11) (q0 := 0) rfl rfl rfl (q_preF hN hK hP hD)) rfl rfl hl.1 rfl (lv_room (Nat.le_of_ble_eq_true rfl)) dX11_open_1 ⟨Nat.le_of_ble_eq_true rfl, Nat.le_of_ble_eq_true rfl⟩) hD hS hA (fun w1 H locs hw hP hD hS => ?_)
  obtain rfl := hw
  refine lv_iconst (v := 0) hx hb dX11_open_4 (by decide) ?_
  refine lv_istore_n (lv' := [(1, .int 0), (0, .ref h)]) hx hb dX11_open_5 rfl hl (by decide) rfl (fun ls hl => ?_)
  refine lv_iconst (v := 0) hx hb dX11_open_6 (by decide) ?_
  refine lv_istore_n (lv' := [(2, .int 0), (1, .int 0), (0, .ref h)]) hx hb dX11_open_7 rfl hl (by decide) rfl (fun ls hl => ?_)
  refine lv_iload_n hx hb dX11_open_8 rfl (lv_at hl 0 rfl) ?_
  refine lv_aload_n hx hb dX11_open_9 rfl (lv_at hl 2 rfl) ?_
  refine q_get (v := .ref (a 20)) C inX11 hK hP 0 rfl rfl 20 (by decide) rfl L40 rfl dX11_open_10 ?_
  refine lv_aload_n hx hb dX11_open_13 rfl (lv_at hl 2 rfl) ?_
  refine q_get (v := .int (v 18)) C inX11 hK hP 0 rfl rfl 18 (by decide) rfl L215 rfl dX11_open_14 ?_
  refine q_top (y := 0) (hv18) ?_
  refine q_iald (x := 0) C hK hP 8 1 rfl rfl (vp_lit (by decide +kernel)) dX11_open_17 (hf20_0) ?_
  refine lv_icmp_ge (tgt := 45) hx hb dX11_open_18 (by decide) (fun _ => ?_) (fun h => absurd (by decide +kernel) h)
  refine lv_iload_n hx hb dX11_open_45 rfl (lv_at hl 1 rfl) ?_
  exact q_iret C hr hlocks hK hP hD hS (Nat.le_of_ble_eq_true rfl) (Nat.le_of_ble_eq_true rfl) dX11_open_46 (rfl)

set_option maxHeartbeats 4000000 in
set_option maxRecDepth 100000 in
theorem c_then (l : Launch) (dC : Nat → ClassId) (dI : Nat → Nat → Nat) (cB cI cJ cZ cS : ClassId) (h : Nat) (a : Nat → Nat) (v : Nat → Int32) (f : Nat → Nat → Int32) (g : Nat → Nat → Int64) (hv18 : v 18 = 0) (hf20_0 : f 20 0 = 0) (x1 : Int32) (x2 : Int32) (x3 : Int32) : CI l yX11_then wsX11_then ({ frames := 2, cells := 0, slots := 0, locals := 43 }) (dC, dI) (tysA cB cI cJ cZ cS) (mw cB cI cJ cZ h a v f g) [.ref h, .int x1, .int x2, .int x3] (fun r _ => r = (-1)) := by
  refine open_I (cc := cX11_then) (maxL := 4) (ret := (some .int)) (by decide) rfl (Nat.le_of_ble_eq_true rfl) ?_
  intro p e s m below meth c A ls E
  obtain ⟨C, hr, hlocks, hnm, hA, hP, hK, hD, hN, hl⟩ := E
  obtain ⟨hx, hb, hml, hown, hts⟩ := id C
  have hS : va_S A s.heap s.heap [] := va_S.rf
  have hl : lv_has ls 4 [(0, .ref h), (1, .int x1), (2, .int x2), (3, .int x3)] := hl
  refine lv_aload_n hx hb dX11_then_0 rfl (lv_at hl 0 rfl) ?_
  refine lv_iload_n hx hb dX11_then_1 rfl (lv_at hl 1 rfl) ?_
  refine q_goiF (va_runV (As := [.int x1]) (rest := []) C (c_isWave l dC dI cB cI cJ cZ cS h a v f g hv18 hf20_0 x1 _) (cwV 1 hts gX11_then_X11_isWave rfl rfl rfl (by decide +kernel) ⟨Nat.le_of_ble_eq_true rfl, Nat.le_of_ble_eq_true rfl⟩) (q_preV hK hP (ci := 11) (q0 := 0) rfl rfl rfl (q_preF hN hK hP hD)) rfl rfl hl.1 rfl (lv_room (Nat.le_of_ble_eq_true rfl)) dX11_then_2 ⟨Nat.le_of_ble_eq_true rfl, Nat.le_of_ble_eq_true rfl⟩) hD hS hA (fun r w1 H locs hw hP hD hS => ?_)
  obtain ⟨rfl, rfl⟩ := hw
  refine lv_if_eq (tgt := 24) hx hb dX11_then_5 (by decide) (fun _ => ?_) (fun h => absurd (by decide +kernel) h)
  refine lv_iconst (v := (-1)) hx hb dX11_then_24 (by decide) ?_
  exact q_iret C hr hlocks hK hP hD hS (Nat.le_of_ble_eq_true rfl) (Nat.le_of_ble_eq_true rfl) dX11_then_25 (rfl)

set_option maxHeartbeats 4000000 in
set_option maxRecDepth 100000 in
theorem c_next (l : Launch) (dC : Nat → ClassId) (dI : Nat → Nat → Nat) (cB cI cJ cZ cS : ClassId) (h : Nat) (a : Nat → Nat) (v : Nat → Int32) (f : Nat → Nat → Int32) (g : Nat → Nat → Int64) (hv18 : v 18 = 0) (hf20_0 : f 20 0 = 0) (x1 : Int32) : CI l yX11_next wsX11_next ({ frames := 2, cells := 0, slots := 0, locals := 43 }) (dC, dI) (tysA cB cI cJ cZ cS) (mw cB cI cJ cZ h a v f g) [.ref h, .int x1] (fun r _ => r = (-1)) := by
  refine open_I (cc := cX11_next) (maxL := 3) (ret := (some .int)) (by decide) rfl (Nat.le_of_ble_eq_true rfl) ?_
  intro p e s m below meth c A ls E
  obtain ⟨C, hr, hlocks, hnm, hA, hP, hK, hD, hN, hl⟩ := E
  obtain ⟨hx, hb, hml, hown, hts⟩ := id C
  have hS : va_S A s.heap s.heap [] := va_S.rf
  have hl : lv_has ls 3 [(0, .ref h), (1, .int x1)] := hl
  refine lv_aload_n hx hb dX11_next_0 rfl (lv_at hl 0 rfl) ?_
  refine lv_iload_n hx hb dX11_next_1 rfl (lv_at hl 1 rfl) ?_
  refine q_goiF (va_runV (As := [.int x1]) (rest := []) C (c_isWave l dC dI cB cI cJ cZ cS h a v f g hv18 hf20_0 x1 _) (cwV 1 hts gX11_next_X11_isWave rfl rfl rfl (by decide +kernel) ⟨Nat.le_of_ble_eq_true rfl, Nat.le_of_ble_eq_true rfl⟩) (q_preV hK hP (ci := 11) (q0 := 0) rfl rfl rfl (q_preF hN hK hP hD)) rfl rfl hl.1 rfl (lv_room (Nat.le_of_ble_eq_true rfl)) dX11_next_2 ⟨Nat.le_of_ble_eq_true rfl, Nat.le_of_ble_eq_true rfl⟩) hD hS hA (fun r w1 H locs hw hP hD hS => ?_)
  obtain ⟨rfl, rfl⟩ := hw
  refine lv_if_ne (tgt := 10) hx hb dX11_next_5 (by decide) (fun h => absurd (by decide +kernel) h) (fun _ => ?_)
  refine lv_iconst (v := (-1)) hx hb dX11_next_8 (by decide) ?_
  exact q_iret C hr hlocks hK hP hD hS (Nat.le_of_ble_eq_true rfl) (Nat.le_of_ble_eq_true rfl) dX11_next_9 (rfl)

set_option maxHeartbeats 4000000 in
set_option maxRecDepth 100000 in
theorem c_drawn (l : Launch) (dC : Nat → ClassId) (dI : Nat → Nat → Nat) (cB cI cJ cZ cS : ClassId) (h : Nat) (a : Nat → Nat) (v : Nat → Int32) (f : Nat → Nat → Int32) (g : Nat → Nat → Int64) (hv18 : v 18 = 0) (hf20_0 : f 20 0 = 0) (x1 : Int32) (x2 : Int32) : CI l yX11_drawn wsX11_drawn ({ frames := 2, cells := 0, slots := 0, locals := 43 }) (dC, dI) (tysA cB cI cJ cZ cS) (mw cB cI cJ cZ h a v f g) [.ref h, .int x1, .int x2] (fun r _ => r = (-1)) := by
  refine open_I (cc := cX11_drawn) (maxL := 5) (ret := (some .int)) (by decide) rfl (Nat.le_of_ble_eq_true rfl) ?_
  intro p e s m below meth c A ls E
  obtain ⟨C, hr, hlocks, hnm, hA, hP, hK, hD, hN, hl⟩ := E
  obtain ⟨hx, hb, hml, hown, hts⟩ := id C
  have hS : va_S A s.heap s.heap [] := va_S.rf
  have hl : lv_has ls 5 [(0, .ref h), (1, .int x1), (2, .int x2)] := hl
  refine lv_aload_n hx hb dX11_drawn_0 rfl (lv_at hl 0 rfl) ?_
  refine lv_iload_n hx hb dX11_drawn_1 rfl (lv_at hl 1 rfl) ?_
  refine q_goiF (va_runV (As := [.int x1]) (rest := []) C (c_isWave l dC dI cB cI cJ cZ cS h a v f g hv18 hf20_0 x1 _) (cwV 1 hts gX11_drawn_X11_isWave rfl rfl rfl (by decide +kernel) ⟨Nat.le_of_ble_eq_true rfl, Nat.le_of_ble_eq_true rfl⟩) (q_preV hK hP (ci := 11) (q0 := 0) rfl rfl rfl (q_preF hN hK hP hD)) rfl rfl hl.1 rfl (lv_room (Nat.le_of_ble_eq_true rfl)) dX11_drawn_2 ⟨Nat.le_of_ble_eq_true rfl, Nat.le_of_ble_eq_true rfl⟩) hD hS hA (fun r w1 H locs hw hP hD hS => ?_)
  obtain ⟨rfl, rfl⟩ := hw
  refine lv_if_eq (tgt := 18) hx hb dX11_drawn_5 (by decide) (fun _ => ?_) (fun h => absurd (by decide +kernel) h)
  refine lv_iconst (v := (-1)) hx hb dX11_drawn_18 (by decide) ?_
  exact q_iret C hr hlocks hK hP hD hS (Nat.le_of_ble_eq_true rfl) (Nat.le_of_ble_eq_true rfl) dX11_drawn_19 (rfl)

set_option maxHeartbeats 4000000 in
set_option maxRecDepth 100000 in
theorem c_tell (l : Launch) (dC : Nat → ClassId) (dI : Nat → Nat → Nat) (cB cI cJ cZ cS : ClassId) (h : Nat) (a : Nat → Nat) (v : Nat → Int32) (f : Nat → Nat → Int32) (g : Nat → Nat → Int64) (hv18 : v 18 = 0) (hf20_0 : f 20 0 = 0) (hv51 : v 51 = 0) (x1 : Int32) (x2 : Int32) (x3 : Int32) : CI l yX11_tell wsX11_tell ({ frames := 2, cells := 0, slots := 0, locals := 43 }) (dC, dI) (tysA cB cI cJ cZ cS) (mw cB cI cJ cZ h a v f g) [.ref h, .int x1, .int x2, .int x3] (fun r _ => r = (-1)) := by
  refine open_I (cc := cX11_tell) (maxL := 4) (ret := (some .int)) (by decide) rfl (Nat.le_of_ble_eq_true rfl) ?_
  intro p e s m below meth c A ls E
  obtain ⟨C, hr, hlocks, hnm, hA, hP, hK, hD, hN, hl⟩ := E
  obtain ⟨hx, hb, hml, hown, hts⟩ := id C
  have hS : va_S A s.heap s.heap [] := va_S.rf
  have hl : lv_has ls 4 [(0, .ref h), (1, .int x1), (2, .int x2), (3, .int x3)] := hl
  have inX11 : ∀ w ∈ u_ws RX11 TX11 58, w ∈ wsX11_tell := fun _ h => List.mem_cons_of_mem _ (List.mem_append_right _ h)
  have L233 : Cond.fieldLink RX11 233 "GuessFerryModel" "tolds" "I" ∈ wsX11_tell := by decide +kernel
  refine lv_aload_n hx hb dX11_tell_0 rfl (lv_at hl 0 rfl) ?_
  refine q_get (v := .int (v 51)) C inX11 hK hP 0 rfl rfl 51 (by decide) rfl L233 rfl dX11_tell_1 ?_
  refine q_top (y := 0) (hv51) ?_
  refine lv_bipush (v := 20) hx hb dX11_tell_4 (by decide) ?_
  refine lv_icmp_eq (tgt := 27) hx hb dX11_tell_6 (by decide) (fun h => absurd h (by decide +kernel)) (fun _ => ?_)
  refine lv_aload_n hx hb dX11_tell_9 rfl (lv_at hl 0 rfl) ?_
  refine lv_iload_n hx hb dX11_tell_10 rfl (lv_at hl 1 rfl) ?_
  refine q_goiF (va_runV (As := [.int x1]) (rest := []) C (c_isWave l dC dI cB cI cJ cZ cS h a v f g hv18 hf20_0 x1 _) (cwV 1 hts gX11_tell_X11_isWave rfl rfl rfl (by decide +kernel) ⟨Nat.le_of_ble_eq_true rfl, Nat.le_of_ble_eq_true rfl⟩) (q_preV hK hP (ci := 11) (q0 := 0) rfl rfl rfl (q_preF hN hK hP hD)) rfl rfl hl.1 rfl (lv_room (Nat.le_of_ble_eq_true rfl)) dX11_tell_11 ⟨Nat.le_of_ble_eq_true rfl, Nat.le_of_ble_eq_true rfl⟩) hD hS hA (fun r w1 H locs hw hP hD hS => ?_)
  obtain ⟨rfl, rfl⟩ := hw
  refine lv_if_eq (tgt := 27) hx hb dX11_tell_14 (by decide) (fun _ => ?_) (fun h => absurd (by decide +kernel) h)
  refine lv_iconst (v := (-1)) hx hb dX11_tell_27 (by decide) ?_
  exact q_iret C hr hlocks hK hP hD hS (Nat.le_of_ble_eq_true rfl) (Nat.le_of_ble_eq_true rfl) dX11_tell_28 (rfl)

set_option maxHeartbeats 4000000 in
set_option maxRecDepth 100000 in
theorem c_forget (l : Launch) (dC : Nat → ClassId) (dI : Nat → Nat → Nat) (cB cI cJ cZ cS : ClassId) (h : Nat) (a : Nat → Nat) (v : Nat → Int32) (f : Nat → Nat → Int32) (g : Nat → Nat → Int64) (hv51 : v 51 = 0) : CI l yX11_forget wsX11_forget ({ frames := 0, cells := 0, slots := 0, locals := 0 }) (dC, dI) (tysA cB cI cJ cZ cS) (mw cB cI cJ cZ h a v f g) [.ref h] (fun r _ => r = 0) := by
  refine open_I (cc := cX11_forget) (maxL := 2) (ret := (some .int)) (by decide) rfl (Nat.le_of_ble_eq_true rfl) ?_
  intro p e s m below meth c A ls E
  obtain ⟨C, hr, hlocks, hnm, hA, hP, hK, hD, hN, hl⟩ := E
  obtain ⟨hx, hb, hml, hown, hts⟩ := id C
  have hS : va_S A s.heap s.heap [] := va_S.rf
  have hl : lv_has ls 2 [(0, .ref h)] := hl
  have inX11 : ∀ w ∈ u_ws RX11 TX11 58, w ∈ wsX11_forget := fun _ h => List.mem_cons_of_mem _ (List.mem_append_right _ h)
  have L233 : Cond.fieldLink RX11 233 "GuessFerryModel" "tolds" "I" ∈ wsX11_forget := by decide +kernel
  refine lv_aload_n hx hb dX11_forget_0 rfl (lv_at hl 0 rfl) ?_
  refine q_get (v := .int (v 51)) C inX11 hK hP 0 rfl rfl 51 (by decide) rfl L233 rfl dX11_forget_1 ?_
  refine q_top (y := 0) (hv51) ?_
  refine lv_istore_n (lv' := [(1, .int 0), (0, .ref h)]) hx hb dX11_forget_4 rfl hl (by decide) rfl (fun ls hl => ?_)
  refine lv_aload_n hx hb dX11_forget_5 rfl (lv_at hl 1 rfl) ?_
  refine lv_iconst (v := 0) hx hb dX11_forget_6 (by decide) ?_
  refine q_putS (ty := .int) tyX11 tyX11_ok nmX11 C inX11 hK hP hD hS 0 rfl rfl 51 (by decide) rfl L233 rfl (by decide +kernel) (rfl) rfl (Nat.le_of_ble_eq_true rfl) dX11_forget_7 (congrArg (fun z => some (Value.int z)) hv51) (fun H locs hP hD hS => ?_)
  refine lv_iload_n hx hb dX11_forget_10 rfl (lv_at hl 0 rfl) ?_
  exact q_iret C hr hlocks hK hP hD hS (Nat.le_of_ble_eq_true rfl) (Nat.le_of_ble_eq_true rfl) dX11_forget_11 (rfl)

set_option maxHeartbeats 4000000 in
set_option maxRecDepth 100000 in
theorem c_fit (l : Launch) (dC : Nat → ClassId) (dI : Nat → Nat → Nat) (cB cI cJ cZ cS : ClassId) (h : Nat) (a : Nat → Nat) (v : Nat → Int32) (f : Nat → Nat → Int32) (g : Nat → Nat → Int64) (hv18 : v 18 = 0) (hf26_0 : f 26 0 = 0) (hv45 : v 45 = 0) (hf20_0 : f 20 0 = 0) (hf46_0 : f 46 0 = 1) (hv51 : v 51 = 0) (x1 : Int32) (x2 : Int32) (x3 : Int32) (hrow : ∀ j, j < 29 → f 44 j = f 43 j) : CI l yX11_fit wsX11_fit ({ frames := 2, cells := 0, slots := 0, locals := 45 }) (dC, dI) (tysA cB cI cJ cZ cS) (mw cB cI cJ cZ h a v f g) [.ref h, .int x1, .int x2, .int x3] (fun r _ => r = (fr_fit x1 x2 x3)) := by
  refine open_I (cc := cX11_fit) (maxL := 6) (ret := (some .int)) (by decide) rfl (Nat.le_of_ble_eq_true rfl) ?_
  intro p e s m below meth c A ls E
  obtain ⟨C, hr, hlocks, hnm, hA, hP, hK, hD, hN, hl⟩ := E
  obtain ⟨hx, hb, hml, hown, hts⟩ := id C
  have hS : va_S A s.heap s.heap [] := va_S.rf
  have hl : lv_has ls 6 [(0, .ref h), (1, .int x1), (2, .int x2), (3, .int x3)] := hl
  have inX11 : ∀ w ∈ u_ws RX11 TX11 58, w ∈ wsX11_fit := by decide +kernel
  have L113 : Cond.fieldLink RX11 113 "GuessFerryModel" "chanceBy" "[I" ∈ wsX11_fit := by decide +kernel
  refine lv_aload_n hx hb dX11_fit_0 rfl (lv_at hl 0 rfl) ?_
  refine lv_iload_n hx hb dX11_fit_1 rfl (lv_at hl 1 rfl) ?_
  refine lv_iload_n hx hb dX11_fit_2 rfl (lv_at hl 2 rfl) ?_
  refine q_goiF (va_runV (As := [.int x1, .int x2]) (rest := []) C (c_isAsked l dC dI cB cI cJ cZ cS h a v f g hv51 x1 x2 _) (cwV 2 hts gX11_fit_X11_isAsked rfl rfl rfl (by decide +kernel) ⟨Nat.le_of_ble_eq_true rfl, Nat.le_of_ble_eq_true rfl⟩) (q_preV hK hP (ci := 11) (q0 := 0) rfl rfl rfl (q_preF hN hK hP hD)) rfl rfl hl.1 rfl (lv_room (Nat.le_of_ble_eq_true rfl)) dX11_fit_3 ⟨Nat.le_of_ble_eq_true rfl, Nat.le_of_ble_eq_true rfl⟩) hD hS hA (fun r w1 H locs hw hP hD hS => ?_)
  obtain ⟨rfl, rfl⟩ := hw
  refine lv_if_eq (tgt := 18) hx hb dX11_fit_6 (by decide) (fun c1 => ?_) (fun c1 => ?_)
  · skip
    refine lv_iconst (v := (-1)) hx hb dX11_fit_18 (by decide) ?_
    exact q_iret C hr hlocks hK hP hD hS (Nat.le_of_ble_eq_true rfl) (Nat.le_of_ble_eq_true rfl) dX11_fit_19 (by unfold fr_fit; rw [if_pos c1])
  · skip
    have hl0 := sp_ask_l c1
    obtain rfl : x1 = 0 := sp_ask_k c1
    refine lv_iload_n hx hb dX11_fit_9 rfl (lv_at hl 3 rfl) ?_
    refine lv_iconst (v := 0) hx hb dX11_fit_10 (by decide) ?_
    refine lv_iconst (v := 1) hx hb dX11_fit_11 (by decide) ?_
    refine q_goi0 (va_runS (As := [.int x3, .int 0, .int 1]) (rest := []) C (c_in l dC dI cB cI cJ cZ cS x3 0 1 _) (va_cwS 3 hts gX11_fit_X11_in rfl rfl rfl (by decide +kernel) ⟨Nat.le_of_ble_eq_true rfl, Nat.le_of_ble_eq_true rfl⟩) (q_pre0 hN hK) rfl rfl hl.1 rfl (lv_room (Nat.le_of_ble_eq_true rfl)) dX11_fit_12 ⟨Nat.le_of_ble_eq_true rfl, Nat.le_of_ble_eq_true rfl⟩) hP hD hS hA (fun r w1 H locs hw hP hS => ?_)
    obtain rfl := hw
    refine lv_if_ne (tgt := 20) hx hb dX11_fit_15 (by decide) (fun c2 => ?_) (fun c2 => ?_)
    · skip
      obtain rfl | rfl := sp_in_2c c2
      · skip
        refine lv_aload_n hx hb dX11_fit_20 rfl (lv_at hl 0 rfl) ?_
        refine q_govF (va_runV (As := []) (rest := []) C (c_fillsChances l dC dI cB cI cJ cZ cS h a v f g hv18 hf26_0 hv45 hf20_0 hf46_0 (hrow) _) (cwV 0 hts gX11_fit_X11_fillsChances rfl rfl rfl (by decide +kernel) ⟨Nat.le_of_ble_eq_true rfl, Nat.le_of_ble_eq_true rfl⟩) (q_preV hK hP (ci := 11) (q0 := 0) rfl rfl rfl (q_preF hN hK hP hD)) rfl rfl hl.1 rfl (lv_room (Nat.le_of_ble_eq_true rfl)) dX11_fit_21 ⟨Nat.le_of_ble_eq_true rfl, Nat.le_of_ble_eq_true rfl⟩) hD hS hA (fun w1 H locs hw hP hD hS => ?_)
        obtain rfl := hw
        refine lv_iconst (v := 0) hx hb dX11_fit_24 (by decide) ?_
        refine lv_istore (lv' := [(4, .int 0), (0, .ref h), (1, .int 0), (2, .int x2), (3, .int 0)]) hx hb dX11_fit_25 hl (by decide) rfl (fun ls hl => ?_)
        refine lv_iconst (v := 0) hx hb dX11_fit_27 (by decide) ?_
        refine lv_istore (lv' := [(5, .int 0), (4, .int 0), (0, .ref h), (1, .int 0), (2, .int x2), (3, .int 0)]) hx hb dX11_fit_28 hl (by decide) rfl (fun ls hl => ?_)
        refine lv_iload hx hb dX11_fit_30 (lv_at hl 0 rfl) ?_
        refine lv_aload_n hx hb dX11_fit_32 rfl (lv_at hl 2 rfl) ?_
        refine q_goiF (va_runV (As := []) (rest := [.int 0]) C (c_guesses l dC dI cB cI cJ cZ cS h a v (va_up f 50 (upd (f 50) 0 1)) g hv18 hf20_0 hf46_0 _) (cwV 0 hts gX11_fit_X11_guesses rfl rfl rfl (by decide +kernel) ⟨Nat.le_of_ble_eq_true rfl, Nat.le_of_ble_eq_true rfl⟩) (q_preV hK hP (ci := 11) (q0 := 0) rfl rfl rfl (q_preF hN hK hP hD)) rfl rfl hl.1 rfl (lv_room (Nat.le_of_ble_eq_true rfl)) dX11_fit_33 ⟨Nat.le_of_ble_eq_true rfl, Nat.le_of_ble_eq_true rfl⟩) hD hS hA (fun r w1 H locs hw hP hD hS => ?_)
        obtain ⟨rfl, rfl⟩ := hw
        refine lv_icmp_ge (tgt := 76) hx hb dX11_fit_36 (by decide) (fun h => absurd h (by decide +kernel)) (fun _ => ?_)
        refine lv_aload_n hx hb dX11_fit_39 rfl (lv_at hl 2 rfl) ?_
        refine lv_iload hx hb dX11_fit_40 (lv_at hl 0 rfl) ?_
        refine lv_iload_n hx hb dX11_fit_42 rfl (lv_at hl 3 rfl) ?_
        refine lv_iload_n hx hb dX11_fit_43 rfl (lv_at hl 4 rfl) ?_
        refine q_goiF (va_runV (As := [.int 0, .int 0, .int x2]) (rest := []) C (c_doesFit l dC dI cB cI cJ cZ cS h a v (va_up f 50 (upd (f 50) 0 1)) g rfl x2 (hl0) _) (cwV 3 hts gX11_fit_X11_doesFit rfl rfl rfl (by decide +kernel) ⟨Nat.le_of_ble_eq_true rfl, Nat.le_of_ble_eq_true rfl⟩) (q_preV hK hP (ci := 11) (q0 := 0) rfl rfl rfl (q_preF hN hK hP hD)) rfl rfl hl.1 rfl (lv_room (Nat.le_of_ble_eq_true rfl)) dX11_fit_44 ⟨Nat.le_of_ble_eq_true rfl, Nat.le_of_ble_eq_true rfl⟩) hD hS hA (fun r w1 H locs hw hP hD hS => ?_)
        obtain ⟨rfl, rfl⟩ := hw
        refine lv_if_eq (tgt := 70) hx hb dX11_fit_47 (by decide) (fun h => absurd h (by decide +kernel)) (fun _ => ?_)
        refine lv_iload hx hb dX11_fit_50 (lv_at hl 1 rfl) ?_
        refine lv_iload_n hx hb dX11_fit_52 rfl (lv_at hl 5 rfl) ?_
        refine lv_if_ne (tgt := 60) hx hb dX11_fit_53 (by decide) (fun h => absurd (by decide +kernel) h) (fun _ => ?_)
        refine lv_iconst (v := 1) hx hb dX11_fit_56 (by decide) ?_
        refine lv_goto (tgt := 67) hx hb dX11_fit_57 (by decide) ?_
        refine lv_iadd hx hb dX11_fit_67 ?_
        refine q_top (y := 1) (by decide +kernel) ?_
        refine lv_istore (lv' := [(4, .int 1), (5, .int 0), (0, .ref h), (1, .int 0), (2, .int x2), (3, .int 0)]) hx hb dX11_fit_68 hl (by decide) rfl (fun ls hl => ?_)
        refine lv_iinc (v := 1) (lv' := [(5, .int 1), (4, .int 1), (0, .ref h), (1, .int 0), (2, .int x2), (3, .int 0)]) hx hb dX11_fit_70 hl (k := 1) rfl (by decide +kernel) (by decide) rfl (fun ls hl => ?_)
        refine lv_goto (tgt := 30) hx hb dX11_fit_73 (by decide) ?_
        refine lv_iload hx hb dX11_fit_30 (lv_at hl 0 rfl) ?_
        refine lv_aload_n hx hb dX11_fit_32 rfl (lv_at hl 2 rfl) ?_
        refine q_goiF (va_runV (As := []) (rest := [.int 1]) C (c_guesses l dC dI cB cI cJ cZ cS h a v (va_up f 50 (upd (f 50) 0 1)) g hv18 hf20_0 hf46_0 _) (cwV 0 hts gX11_fit_X11_guesses rfl rfl rfl (by decide +kernel) ⟨Nat.le_of_ble_eq_true rfl, Nat.le_of_ble_eq_true rfl⟩) (q_preV hK hP (ci := 11) (q0 := 0) rfl rfl rfl (q_preF hN hK hP hD)) rfl rfl hl.1 rfl (lv_room (Nat.le_of_ble_eq_true rfl)) dX11_fit_33 ⟨Nat.le_of_ble_eq_true rfl, Nat.le_of_ble_eq_true rfl⟩) hD hS hA (fun r w1 H locs hw hP hD hS => ?_)
        obtain ⟨rfl, rfl⟩ := hw
        refine lv_icmp_ge (tgt := 76) hx hb dX11_fit_36 (by decide) (fun _ => ?_) (fun h => absurd (by decide +kernel) h)
        refine lv_iload hx hb dX11_fit_76 (lv_at hl 1 rfl) ?_
        exact q_iret C hr hlocks hK hP hD hS (Nat.le_of_ble_eq_true rfl) (Nat.le_of_ble_eq_true rfl) dX11_fit_78 (by unfold fr_fit; rw [if_neg c1, if_neg (by decide +kernel)])
      · skip
        refine lv_aload_n hx hb dX11_fit_20 rfl (lv_at hl 0 rfl) ?_
        refine q_govF (va_runV (As := []) (rest := []) C (c_fillsChances l dC dI cB cI cJ cZ cS h a v f g hv18 hf26_0 hv45 hf20_0 hf46_0 (hrow) _) (cwV 0 hts gX11_fit_X11_fillsChances rfl rfl rfl (by decide +kernel) ⟨Nat.le_of_ble_eq_true rfl, Nat.le_of_ble_eq_true rfl⟩) (q_preV hK hP (ci := 11) (q0 := 0) rfl rfl rfl (q_preF hN hK hP hD)) rfl rfl hl.1 rfl (lv_room (Nat.le_of_ble_eq_true rfl)) dX11_fit_21 ⟨Nat.le_of_ble_eq_true rfl, Nat.le_of_ble_eq_true rfl⟩) hD hS hA (fun w1 H locs hw hP hD hS => ?_)
        obtain rfl := hw
        refine lv_iconst (v := 0) hx hb dX11_fit_24 (by decide) ?_
        refine lv_istore (lv' := [(4, .int 0), (0, .ref h), (1, .int 0), (2, .int x2), (3, .int 1)]) hx hb dX11_fit_25 hl (by decide) rfl (fun ls hl => ?_)
        refine lv_iconst (v := 0) hx hb dX11_fit_27 (by decide) ?_
        refine lv_istore (lv' := [(5, .int 0), (4, .int 0), (0, .ref h), (1, .int 0), (2, .int x2), (3, .int 1)]) hx hb dX11_fit_28 hl (by decide) rfl (fun ls hl => ?_)
        refine lv_iload hx hb dX11_fit_30 (lv_at hl 0 rfl) ?_
        refine lv_aload_n hx hb dX11_fit_32 rfl (lv_at hl 2 rfl) ?_
        refine q_goiF (va_runV (As := []) (rest := [.int 0]) C (c_guesses l dC dI cB cI cJ cZ cS h a v (va_up f 50 (upd (f 50) 0 1)) g hv18 hf20_0 hf46_0 _) (cwV 0 hts gX11_fit_X11_guesses rfl rfl rfl (by decide +kernel) ⟨Nat.le_of_ble_eq_true rfl, Nat.le_of_ble_eq_true rfl⟩) (q_preV hK hP (ci := 11) (q0 := 0) rfl rfl rfl (q_preF hN hK hP hD)) rfl rfl hl.1 rfl (lv_room (Nat.le_of_ble_eq_true rfl)) dX11_fit_33 ⟨Nat.le_of_ble_eq_true rfl, Nat.le_of_ble_eq_true rfl⟩) hD hS hA (fun r w1 H locs hw hP hD hS => ?_)
        obtain ⟨rfl, rfl⟩ := hw
        refine lv_icmp_ge (tgt := 76) hx hb dX11_fit_36 (by decide) (fun h => absurd h (by decide +kernel)) (fun _ => ?_)
        refine lv_aload_n hx hb dX11_fit_39 rfl (lv_at hl 2 rfl) ?_
        refine lv_iload hx hb dX11_fit_40 (lv_at hl 0 rfl) ?_
        refine lv_iload_n hx hb dX11_fit_42 rfl (lv_at hl 3 rfl) ?_
        refine lv_iload_n hx hb dX11_fit_43 rfl (lv_at hl 4 rfl) ?_
        refine q_goiF (va_runV (As := [.int 0, .int 0, .int x2]) (rest := []) C (c_doesFit l dC dI cB cI cJ cZ cS h a v (va_up f 50 (upd (f 50) 0 1)) g rfl x2 (hl0) _) (cwV 3 hts gX11_fit_X11_doesFit rfl rfl rfl (by decide +kernel) ⟨Nat.le_of_ble_eq_true rfl, Nat.le_of_ble_eq_true rfl⟩) (q_preV hK hP (ci := 11) (q0 := 0) rfl rfl rfl (q_preF hN hK hP hD)) rfl rfl hl.1 rfl (lv_room (Nat.le_of_ble_eq_true rfl)) dX11_fit_44 ⟨Nat.le_of_ble_eq_true rfl, Nat.le_of_ble_eq_true rfl⟩) hD hS hA (fun r w1 H locs hw hP hD hS => ?_)
        obtain ⟨rfl, rfl⟩ := hw
        refine lv_if_eq (tgt := 70) hx hb dX11_fit_47 (by decide) (fun h => absurd h (by decide +kernel)) (fun _ => ?_)
        refine lv_iload hx hb dX11_fit_50 (lv_at hl 1 rfl) ?_
        refine lv_iload_n hx hb dX11_fit_52 rfl (lv_at hl 5 rfl) ?_
        refine lv_if_ne (tgt := 60) hx hb dX11_fit_53 (by decide) (fun _ => ?_) (fun h => absurd h (by decide +kernel))
        refine lv_aload_n hx hb dX11_fit_60 rfl (lv_at hl 2 rfl) ?_
        refine q_get (v := .ref (a 50)) C inX11 hK hP 0 rfl rfl 50 (by decide) rfl L113 rfl dX11_fit_61 ?_
        refine lv_iload hx hb dX11_fit_64 (lv_at hl 0 rfl) ?_
        refine q_iald (x := 1) C hK hP 32 1 rfl rfl (vp_lit (by decide +kernel)) dX11_fit_66 (rfl) ?_
        refine lv_iadd hx hb dX11_fit_67 ?_
        refine q_top (y := 1) (by decide +kernel) ?_
        refine lv_istore (lv' := [(4, .int 1), (5, .int 0), (0, .ref h), (1, .int 0), (2, .int x2), (3, .int 1)]) hx hb dX11_fit_68 hl (by decide) rfl (fun ls hl => ?_)
        refine lv_iinc (v := 1) (lv' := [(5, .int 1), (4, .int 1), (0, .ref h), (1, .int 0), (2, .int x2), (3, .int 1)]) hx hb dX11_fit_70 hl (k := 1) rfl (by decide +kernel) (by decide) rfl (fun ls hl => ?_)
        refine lv_goto (tgt := 30) hx hb dX11_fit_73 (by decide) ?_
        refine lv_iload hx hb dX11_fit_30 (lv_at hl 0 rfl) ?_
        refine lv_aload_n hx hb dX11_fit_32 rfl (lv_at hl 2 rfl) ?_
        refine q_goiF (va_runV (As := []) (rest := [.int 1]) C (c_guesses l dC dI cB cI cJ cZ cS h a v (va_up f 50 (upd (f 50) 0 1)) g hv18 hf20_0 hf46_0 _) (cwV 0 hts gX11_fit_X11_guesses rfl rfl rfl (by decide +kernel) ⟨Nat.le_of_ble_eq_true rfl, Nat.le_of_ble_eq_true rfl⟩) (q_preV hK hP (ci := 11) (q0 := 0) rfl rfl rfl (q_preF hN hK hP hD)) rfl rfl hl.1 rfl (lv_room (Nat.le_of_ble_eq_true rfl)) dX11_fit_33 ⟨Nat.le_of_ble_eq_true rfl, Nat.le_of_ble_eq_true rfl⟩) hD hS hA (fun r w1 H locs hw hP hD hS => ?_)
        obtain ⟨rfl, rfl⟩ := hw
        refine lv_icmp_ge (tgt := 76) hx hb dX11_fit_36 (by decide) (fun _ => ?_) (fun h => absurd (by decide +kernel) h)
        refine lv_iload hx hb dX11_fit_76 (lv_at hl 1 rfl) ?_
        exact q_iret C hr hlocks hK hP hD hS (Nat.le_of_ble_eq_true rfl) (Nat.le_of_ble_eq_true rfl) dX11_fit_78 (by unfold fr_fit; rw [if_neg c1, if_neg (by decide +kernel)])
    · skip
      refine lv_iconst (v := (-1)) hx hb dX11_fit_18 (by decide) ?_
      exact q_iret C hr hlocks hK hP hD hS (Nat.le_of_ble_eq_true rfl) (Nat.le_of_ble_eq_true rfl) dX11_fit_19 (by unfold fr_fit; rw [if_neg c1, if_pos c2])

set_option maxHeartbeats 4000000 in
set_option maxRecDepth 100000 in
theorem c_lie (l : Launch) (dC : Nat → ClassId) (dI : Nat → Nat → Nat) (cB cI cJ cZ cS : ClassId) (h : Nat) (a : Nat → Nat) (v : Nat → Int32) (f : Nat → Nat → Int32) (g : Nat → Nat → Int64) (hv18 : v 18 = 0) (hf26_0 : f 26 0 = 0) (hv45 : v 45 = 0) (hf20_0 : f 20 0 = 0) (hf46_0 : f 46 0 = 1) (hv51 : v 51 = 0) (x1 : Int32) (x2 : Int32) (hrow : ∀ j, j < 29 → f 44 j = f 43 j) : CI l yX11_lie wsX11_lie ({ frames := 2, cells := 0, slots := 0, locals := 45 }) (dC, dI) (tysA cB cI cJ cZ cS) (mw cB cI cJ cZ h a v f g) [.ref h, .int x1, .int x2] (fun r _ => r = (fr_ask 0 x1 x2)) := by
  refine open_I (cc := cX11_lie) (maxL := 6) (ret := (some .int)) (by decide) rfl (Nat.le_of_ble_eq_true rfl) ?_
  intro p e s m below meth c A ls E
  obtain ⟨C, hr, hlocks, hnm, hA, hP, hK, hD, hN, hl⟩ := E
  obtain ⟨hx, hb, hml, hown, hts⟩ := id C
  have hS : va_S A s.heap s.heap [] := va_S.rf
  have hl : lv_has ls 6 [(0, .ref h), (1, .int x1), (2, .int x2)] := hl
  refine lv_aload_n hx hb dX11_lie_0 rfl (lv_at hl 0 rfl) ?_
  refine lv_iload_n hx hb dX11_lie_1 rfl (lv_at hl 1 rfl) ?_
  refine lv_iload_n hx hb dX11_lie_2 rfl (lv_at hl 2 rfl) ?_
  refine q_goiF (va_runV (As := [.int x1, .int x2]) (rest := []) C (c_isAsked l dC dI cB cI cJ cZ cS h a v f g hv51 x1 x2 _) (cwV 2 hts gX11_lie_X11_isAsked rfl rfl rfl (by decide +kernel) ⟨Nat.le_of_ble_eq_true rfl, Nat.le_of_ble_eq_true rfl⟩) (q_preV hK hP (ci := 11) (q0 := 0) rfl rfl rfl (q_preF hN hK hP hD)) rfl rfl hl.1 rfl (lv_room (Nat.le_of_ble_eq_true rfl)) dX11_lie_3 ⟨Nat.le_of_ble_eq_true rfl, Nat.le_of_ble_eq_true rfl⟩) hD hS hA (fun r w1 H locs hw hP hD hS => ?_)
  obtain ⟨rfl, rfl⟩ := hw
  refine lv_if_ne (tgt := 11) hx hb dX11_lie_6 (by decide) (fun c1 => ?_) (fun c1 => ?_)
  · skip
    have hl0 := sp_ask_l c1
    obtain rfl : x1 = 0 := sp_ask_k c1
    refine lv_aload_n hx hb dX11_lie_11 rfl (lv_at hl 0 rfl) ?_
    refine q_govF (va_runV (As := []) (rest := []) C (c_fillsChances l dC dI cB cI cJ cZ cS h a v f g hv18 hf26_0 hv45 hf20_0 hf46_0 (hrow) _) (cwV 0 hts gX11_lie_X11_fillsChances rfl rfl rfl (by decide +kernel) ⟨Nat.le_of_ble_eq_true rfl, Nat.le_of_ble_eq_true rfl⟩) (q_preV hK hP (ci := 11) (q0 := 0) rfl rfl rfl (q_preF hN hK hP hD)) rfl rfl hl.1 rfl (lv_room (Nat.le_of_ble_eq_true rfl)) dX11_lie_12 ⟨Nat.le_of_ble_eq_true rfl, Nat.le_of_ble_eq_true rfl⟩) hD hS hA (fun w1 H locs hw hP hD hS => ?_)
    obtain rfl := hw
    refine lv_iconst (v := 1) hx hb dX11_lie_15 (by decide) ?_
    refine lv_iload_n hx hb dX11_lie_16 rfl (lv_at hl 1 rfl) ?_
    refine lv_ishl hx hb dX11_lie_17 ?_
    refine q_top (y := 1) (by decide +kernel) ?_
    refine lv_iconst (v := 1) hx hb dX11_lie_18 (by decide) ?_
    refine lv_isub hx hb dX11_lie_19 ?_
    refine q_top (y := 0) (by decide +kernel) ?_
    refine lv_istore_n (lv' := [(3, .int 0), (0, .ref h), (1, .int 0), (2, .int x2)]) hx hb dX11_lie_20 rfl hl (by decide) rfl (fun ls hl => ?_)
    refine lv_iconst (v := 0) hx hb dX11_lie_21 (by decide) ?_
    refine lv_istore (lv' := [(4, .int 0), (3, .int 0), (0, .ref h), (1, .int 0), (2, .int x2)]) hx hb dX11_lie_22 hl (by decide) rfl (fun ls hl => ?_)
    refine lv_iload hx hb dX11_lie_24 (lv_at hl 0 rfl) ?_
    refine lv_aload_n hx hb dX11_lie_26 rfl (lv_at hl 2 rfl) ?_
    refine q_goiF (va_runV (As := []) (rest := [.int 0]) C (c_guesses l dC dI cB cI cJ cZ cS h a v (va_up f 50 (upd (f 50) 0 1)) g hv18 hf20_0 hf46_0 _) (cwV 0 hts gX11_lie_X11_guesses rfl rfl rfl (by decide +kernel) ⟨Nat.le_of_ble_eq_true rfl, Nat.le_of_ble_eq_true rfl⟩) (q_preV hK hP (ci := 11) (q0 := 0) rfl rfl rfl (q_preF hN hK hP hD)) rfl rfl hl.1 rfl (lv_room (Nat.le_of_ble_eq_true rfl)) dX11_lie_27 ⟨Nat.le_of_ble_eq_true rfl, Nat.le_of_ble_eq_true rfl⟩) hD hS hA (fun r w1 H locs hw hP hD hS => ?_)
    obtain ⟨rfl, rfl⟩ := hw
    refine lv_icmp_ge (tgt := 88) hx hb dX11_lie_30 (by decide) (fun h => absurd h (by decide +kernel)) (fun _ => ?_)
    refine lv_aload_n hx hb dX11_lie_33 rfl (lv_at hl 2 rfl) ?_
    refine lv_iload hx hb dX11_lie_34 (lv_at hl 0 rfl) ?_
    refine lv_iload_n hx hb dX11_lie_36 rfl (lv_at hl 3 rfl) ?_
    refine lv_iload_n hx hb dX11_lie_37 rfl (lv_at hl 4 rfl) ?_
    refine q_goiF (va_runV (As := [.int 0, .int 0, .int x2]) (rest := []) C (c_doesFit l dC dI cB cI cJ cZ cS h a v (va_up f 50 (upd (f 50) 0 1)) g rfl x2 (hl0) _) (cwV 3 hts gX11_lie_X11_doesFit rfl rfl rfl (by decide +kernel) ⟨Nat.le_of_ble_eq_true rfl, Nat.le_of_ble_eq_true rfl⟩) (q_preV hK hP (ci := 11) (q0 := 0) rfl rfl rfl (q_preF hN hK hP hD)) rfl rfl hl.1 rfl (lv_room (Nat.le_of_ble_eq_true rfl)) dX11_lie_38 ⟨Nat.le_of_ble_eq_true rfl, Nat.le_of_ble_eq_true rfl⟩) hD hS hA (fun r w1 H locs hw hP hD hS => ?_)
    obtain ⟨rfl, rfl⟩ := hw
    refine lv_if_ne (tgt := 47) hx hb dX11_lie_41 (by decide) (fun _ => ?_) (fun h => absurd h (by decide +kernel))
    refine lv_iconst (v := 0) hx hb dX11_lie_47 (by decide) ?_
    refine lv_istore (lv' := [(5, .int 0), (4, .int 0), (3, .int 0), (0, .ref h), (1, .int 0), (2, .int x2)]) hx hb dX11_lie_48 hl (by decide) rfl (fun ls hl => ?_)
    refine lv_iload hx hb dX11_lie_50 (lv_at hl 0 rfl) ?_
    refine lv_iload_n hx hb dX11_lie_52 rfl (lv_at hl 4 rfl) ?_
    refine lv_icmp_ge (tgt := 82) hx hb dX11_lie_53 (by decide) (fun _ => ?_) (fun h => absurd (by decide +kernel) h)
    refine lv_iinc (v := 1) (lv' := [(4, .int 1), (5, .int 0), (3, .int 0), (0, .ref h), (1, .int 0), (2, .int x2)]) hx hb dX11_lie_82 hl (k := 1) rfl (by decide +kernel) (by decide) rfl (fun ls hl => ?_)
    refine lv_goto (tgt := 24) hx hb dX11_lie_85 (by decide) ?_
    refine lv_iload hx hb dX11_lie_24 (lv_at hl 0 rfl) ?_
    refine lv_aload_n hx hb dX11_lie_26 rfl (lv_at hl 3 rfl) ?_
    refine q_goiF (va_runV (As := []) (rest := [.int 1]) C (c_guesses l dC dI cB cI cJ cZ cS h a v (va_up f 50 (upd (f 50) 0 1)) g hv18 hf20_0 hf46_0 _) (cwV 0 hts gX11_lie_X11_guesses rfl rfl rfl (by decide +kernel) ⟨Nat.le_of_ble_eq_true rfl, Nat.le_of_ble_eq_true rfl⟩) (q_preV hK hP (ci := 11) (q0 := 0) rfl rfl rfl (q_preF hN hK hP hD)) rfl rfl hl.1 rfl (lv_room (Nat.le_of_ble_eq_true rfl)) dX11_lie_27 ⟨Nat.le_of_ble_eq_true rfl, Nat.le_of_ble_eq_true rfl⟩) hD hS hA (fun r w1 H locs hw hP hD hS => ?_)
    obtain ⟨rfl, rfl⟩ := hw
    refine lv_icmp_ge (tgt := 88) hx hb dX11_lie_30 (by decide) (fun _ => ?_) (fun h => absurd (by decide +kernel) h)
    refine lv_iload_n hx hb dX11_lie_88 rfl (lv_at hl 2 rfl) ?_
    exact q_iret C hr hlocks hK hP hD hS (Nat.le_of_ble_eq_true rfl) (Nat.le_of_ble_eq_true rfl) dX11_lie_89 (by unfold fr_ask; rw [if_neg c1])
  · skip
    refine lv_iconst (v := (-1)) hx hb dX11_lie_9 (by decide) ?_
    exact q_iret C hr hlocks hK hP hD hS (Nat.le_of_ble_eq_true rfl) (Nat.le_of_ble_eq_true rfl) dX11_lie_10 (by unfold fr_ask; rw [if_pos c1])
