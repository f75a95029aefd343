theorem dX11_place_0 : decode cX11_place 0 = .ok (.aload_n 0, 1) := by decide +kernel
theorem dX11_place_1 : decode cX11_place 1 = .ok (.getfield 37, 3) := by decide +kernel
theorem dX11_place_4 : decode cX11_place 4 = .ok (.ireturn, 1) := by decide +kernel
set_option maxRecDepth 20000 in
theorem ggX11_wave_X11_isWave : GoodIn wsX11_wave wsX11_isWave := goodIn_r _ [6, 7, 8, 9, 10, 5, 11, 80, 81, 82, 83, 84, 85, 86, 87, 88, 89, 90, 91, 92, 93, 94, 95, 96, 97, 98, 99, 100, 101, 102, 103, 104, 105, 106, 107, 108, 109, 110, 111, 112, 113, 114, 115, 116, 117, 118, 119, 120, 121, 122, 123, 124, 125, 126, 127, 128, 129, 130, 131, 132, 133, 134, 135, 136, 137] (by decide +kernel) (by decide +kernel)
set_option maxRecDepth 20000 in
theorem gX11_wave_X11_isWave : GoodIn wsX11_wave (wsV RX11 349 RX11 yX11_isWave wsX11_isWave) := goodIn_app (goodIn_of _ (by decide +kernel)) ggX11_wave_X11_isWave
theorem dX11_wave_0 : decode cX11_wave 0 = .ok (.aload_n 0, 1) := by decide +kernel
theorem dX11_wave_1 : decode cX11_wave 1 = .ok (.iload_n 1, 1) := by decide +kernel
theorem dX11_wave_2 : decode cX11_wave 2 = .ok (.invokevirtual 349, 3) := by decide +kernel
theorem dX11_wave_5 : decode cX11_wave 5 = .ok (.ifCond .ne 5, 3) := by decide +kernel
theorem dX11_wave_8 : decode cX11_wave 8 = .ok (.iconst (-1), 1) := by decide +kernel
theorem dX11_wave_9 : decode cX11_wave 9 = .ok (.ireturn, 1) := by decide +kernel
set_option maxRecDepth 20000 in
theorem ggX11_odds_X11_isWave : GoodIn wsX11_odds wsX11_isWave := goodIn_r _ [5, 6, 7, 8, 9, 4, 10, 19, 20, 21, 22, 23, 24, 25, 26, 27, 28, 29, 30, 31, 32, 33, 34, 35, 36, 37, 38, 39, 40, 41, 42, 43, 44, 45, 46, 47, 48, 49, 50, 51, 52, 53, 54, 55, 56, 57, 58, 59, 60, 61, 62, 63, 64, 65, 66, 67, 68, 69, 70, 71, 72, 73, 74, 75, 76] (by decide +kernel) (by decide +kernel)
set_option maxRecDepth 20000 in
theorem gX11_odds_X11_isWave : GoodIn wsX11_odds (wsV RX11 349 RX11 yX11_isWave wsX11_isWave) := goodIn_app (goodIn_of _ (by decide +kernel)) ggX11_odds_X11_isWave
theorem dX11_odds_0 : decode cX11_odds 0 = .ok (.aload_n 0, 1) := by decide +kernel
theorem dX11_odds_1 : decode cX11_odds 1 = .ok (.iload_n 1, 1) := by decide +kernel
theorem dX11_odds_2 : decode cX11_odds 2 = .ok (.invokevirtual 349, 3) := by decide +kernel
theorem dX11_odds_5 : decode cX11_odds 5 = .ok (.ifCond .eq 19, 3) := by decide +kernel
theorem dX11_odds_24 : decode cX11_odds 24 = .ok (.iconst (-1), 1) := by decide +kernel
theorem dX11_odds_25 : decode cX11_odds 25 = .ok (.ireturn, 1) := by decide +kernel
set_option maxRecDepth 20000 in
theorem ggX11_party_X11_isParty : GoodIn wsX11_party wsX11_isParty := goodIn_r _ [9, 10, 2, 11, 12, 8, 13, 56, 57, 58, 59, 60, 61, 62, 63, 64, 65, 66, 67, 68, 69, 70, 71, 72, 73, 74, 75, 76, 77, 78, 79, 80, 81, 82, 83, 84, 85, 86, 87, 88, 89, 90, 91, 92, 93, 94, 95, 96, 97, 98, 99, 100, 101, 102, 103, 104, 105, 106, 107, 108, 109, 110, 111, 112, 113] (by decide +kernel) (by decide +kernel)
set_option maxRecDepth 20000 in
theorem gX11_party_X11_isParty : GoodIn wsX11_party (wsV RX11 358 RX11 yX11_isParty wsX11_isParty) := goodIn_app (goodIn_of _ (by decide +kernel)) ggX11_party_X11_isParty
theorem dX11_party_0 : decode cX11_party 0 = .ok (.aload_n 0, 1) := by decide +kernel
theorem dX11_party_1 : decode cX11_party 1 = .ok (.iload_n 1, 1) := by decide +kernel
theorem dX11_party_2 : decode cX11_party 2 = .ok (.invokevirtual 358, 3) := by decide +kernel
theorem dX11_party_5 : decode cX11_party 5 = .ok (.ifCond .ne 5, 3) := by decide +kernel
theorem dX11_party_8 : decode cX11_party 8 = .ok (.iconst (-1), 1) := by decide +kernel
theorem dX11_party_9 : decode cX11_party 9 = .ok (.ireturn, 1) := by decide +kernel
set_option maxRecDepth 20000 in
theorem ggX11_needs_X11_isParty : GoodIn wsX11_needs wsX11_isParty := goodIn_r _ [5, 6, 7, 8, 9, 4, 10, 76, 77, 78, 79, 80, 81, 82, 83, 84, 85, 86, 87, 88, 89, 90, 91, 92, 93, 94, 95, 96, 97, 98, 99, 100, 101, 102, 103, 104, 105, 106, 107, 108, 109, 110, 111, 112, 113, 114, 115, 116, 117, 118, 119, 120, 121, 122, 123, 124, 125, 126, 127, 128, 129, 130, 131, 132, 133] (by decide +kernel) (by decide +kernel)
set_option maxRecDepth 20000 in
theorem gX11_needs_X11_isParty : GoodIn wsX11_needs (wsV RX11 358 RX11 yX11_isParty wsX11_isParty) := goodIn_app (goodIn_of _ (by decide +kernel)) ggX11_needs_X11_isParty
theorem dX11_needs_0 : decode cX11_needs 0 = .ok (.aload_n 0, 1) := by decide +kernel
theorem dX11_needs_1 : decode cX11_needs 1 = .ok (.iload_n 1, 1) := by decide +kernel
theorem dX11_needs_2 : decode cX11_needs 2 = .ok (.invokevirtual 358, 3) := by decide +kernel
theorem dX11_needs_5 : decode cX11_needs 5 = .ok (.ifCond .eq 18, 3) := by decide +kernel
theorem dX11_needs_23 : decode cX11_needs 23 = .ok (.iconst (-1), 1) := by decide +kernel
theorem dX11_needs_24 : decode cX11_needs 24 = .ok (.ireturn, 1) := by decide +kernel
set_option maxRecDepth 20000 in
theorem ggX11_go_X11_isHere : GoodIn wsX11_go wsX11_isHere := goodIn_r _ [7, 8, 9, 10, 11, 6, 12, 13, 2, 14, 15, 16, 128, 129, 130, 131, 132, 133, 134, 135, 136, 137, 138, 139, 140, 141, 142, 143, 144, 145, 146, 147, 148, 149, 150, 151, 152, 153, 154, 155, 156, 157, 158, 159, 160, 161, 162, 163, 164, 165, 166, 167, 168, 169, 170, 171, 172, 173, 174, 175, 176, 177, 178, 179, 180, 181, 182, 183, 184, 185] (by decide +kernel) (by decide +kernel)
set_option maxRecDepth 20000 in
theorem gX11_go_X11_isHere : GoodIn wsX11_go (wsV RX11 364 RX11 yX11_isHere wsX11_isHere) := goodIn_app (goodIn_of _ (by decide +kernel)) ggX11_go_X11_isHere
theorem dX11_go_0 : decode cX11_go 0 = .ok (.aload_n 0, 1) := by decide +kernel
theorem dX11_go_1 : decode cX11_go 1 = .ok (.iload_n 1, 1) := by decide +kernel
theorem dX11_go_2 : decode cX11_go 2 = .ok (.invokevirtual 364, 3) := by decide +kernel
theorem dX11_go_5 : decode cX11_go 5 = .ok (.ifCond .eq 23, 3) := by decide +kernel
theorem dX11_go_28 : decode cX11_go 28 = .ok (.iconst (-1), 1) := by decide +kernel
theorem dX11_go_29 : decode cX11_go 29 = .ok (.ireturn, 1) := by decide +kernel
set_option maxRecDepth 20000 in
theorem ggX11_buoy_X11_isWave : GoodIn wsX11_buoy wsX11_isWave := goodIn_r _ [7, 8, 9, 10, 11, 6, 12, 32, 33, 34, 35, 36, 37, 38, 39, 40, 41, 42, 43, 44, 45, 46, 47, 48, 49, 50, 51, 52, 53, 54, 55, 56, 57, 58, 59, 60, 61, 62, 63, 64, 65, 66, 67, 68, 69, 70, 71, 72, 73, 74, 75, 76, 77, 78, 79, 80, 81, 82, 83, 84, 85, 86, 87, 88, 89] (by decide +kernel) (by decide +kernel)
set_option maxRecDepth 20000 in
theorem gX11_buoy_X11_isWave : GoodIn wsX11_buoy (wsV RX11 349 RX11 yX11_isWave wsX11_isWave) := goodIn_app (goodIn_of _ (by decide +kernel)) ggX11_buoy_X11_isWave
theorem dX11_buoy_0 : decode cX11_buoy 0 = .ok (.aload_n 0, 1) := by decide +kernel
theorem dX11_buoy_1 : decode cX11_buoy 1 = .ok (.iload_n 1, 1) := by decide +kernel
theorem dX11_buoy_2 : decode cX11_buoy 2 = .ok (.invokevirtual 349, 3) := by decide +kernel
theorem dX11_buoy_5 : decode cX11_buoy 5 = .ok (.ifCond .eq 33, 3) := by decide +kernel
theorem dX11_buoy_38 : decode cX11_buoy 38 = .ok (.iconst 0, 1) := by decide +kernel
theorem dX11_buoy_39 : decode cX11_buoy 39 = .ok (.ireturn, 1) := by decide +kernel
set_option maxRecDepth 20000 in
theorem ggX11_fetch_X11_isParty : GoodIn wsX11_fetch wsX11_isParty := goodIn_r _ [7, 8, 9, 10, 11, 6, 12, 29, 30, 31, 32, 33, 34, 35, 36, 37, 38, 39, 40, 41, 42, 43, 44, 45, 46, 47, 48, 49, 50, 51, 52, 53, 54, 55, 56, 57, 58, 59, 60, 61, 62, 63, 64, 65, 66, 67, 68, 69, 70, 71, 72, 73, 74, 75, 76, 77, 78, 79, 80, 81, 82, 83, 84, 85, 86] (by decide +kernel) (by decide +kernel)
set_option maxRecDepth 20000 in
theorem gX11_fetch_X11_isParty : GoodIn wsX11_fetch (wsV RX11 358 RX11 yX11_isParty wsX11_isParty) := goodIn_app (goodIn_of _ (by decide +kernel)) ggX11_fetch_X11_isParty
theorem dX11_fetch_0 : decode cX11_fetch 0 = .ok (.aload_n 0, 1) := by decide +kernel
theorem dX11_fetch_1 : decode cX11_fetch 1 = .ok (.iload_n 1, 1) := by decide +kernel
theorem dX11_fetch_2 : decode cX11_fetch 2 = .ok (.invokevirtual 358, 3) := by decide +kernel
theorem dX11_fetch_5 : decode cX11_fetch 5 = .ok (.ifCond .eq 15, 3) := by decide +kernel
theorem dX11_fetch_20 : decode cX11_fetch 20 = .ok (.iconst 0, 1) := by decide +kernel
theorem dX11_fetch_21 : decode cX11_fetch 21 = .ok (.ireturn, 1) := by decide +kernel
theorem dX11_undo_0 : decode cX11_undo 0 = .ok (.aload_n 0, 1) := by decide +kernel
theorem dX11_undo_1 : decode cX11_undo 1 = .ok (.getfield 230, 3) := by decide +kernel
theorem dX11_undo_4 : decode cX11_undo 4 = .ok (.ifCond .ne 5, 3) := by decide +kernel
theorem dX11_undo_7 : decode cX11_undo 7 = .ok (.iconst 0, 1) := by decide +kernel
theorem dX11_undo_8 : decode cX11_undo 8 = .ok (.ireturn, 1) := by decide +kernel
set_option maxRecDepth 20000 in
theorem ggX11_cases_X11_copies : GoodIn wsX11_cases wsX11_copies := goodIn_r _ [5, 6, 7, 8, 9, 10, 28, 29, 30, 31, 32, 33, 34, 35, 36, 37, 38, 39, 40, 41, 42, 43, 44, 45, 46, 47, 48, 49, 50, 51, 52, 53, 54, 55, 56, 57, 58, 59, 60, 61, 62, 63, 64, 65, 66, 67, 68, 69, 70, 71, 72, 73, 74, 75, 76, 77, 78, 79, 80, 81, 82, 83, 84, 85] (by decide +kernel) (by decide +kernel)
set_option maxRecDepth 20000 in
theorem gX11_cases_X11_copies : GoodIn wsX11_cases (wsV RX11 352 RX11 yX11_copies wsX11_copies) := goodIn_app (goodIn_of _ (by decide +kernel)) ggX11_cases_X11_copies
set_option maxRecDepth 20000 in
theorem ggX11_cases_X11_casesNow : GoodIn wsX11_cases wsX11_casesNow := goodIn_r _ [14, 15, 9, 16, 17, 18, 4, 19, 6, 20, 21, 22, 23, 24, 25, 26, 27, 28, 29, 30, 31, 32, 33, 34, 35, 36, 37, 38, 39, 40, 41, 42, 43, 44, 45, 46, 47, 48, 49, 50, 51, 52, 53, 54, 55, 56, 57, 58, 59, 60, 61, 62, 63, 64, 65, 66, 67, 68, 69, 70, 71, 72, 73, 74, 75, 76, 77, 78, 79, 80, 81, 82, 83, 84, 85] (by decide +kernel) (by decide +kernel)
set_option maxRecDepth 20000 in
theorem gX11_cases_X11_casesNow : GoodIn wsX11_cases (wsV RX11 385 RX11 yX11_casesNow wsX11_casesNow) := goodIn_app (goodIn_of _ (by decide +kernel)) ggX11_cases_X11_casesNow
theorem dX11_cases_0 : decode cX11_cases 0 = .ok (.aload_n 0, 1) := by decide +kernel
theorem dX11_cases_1 : decode cX11_cases 1 = .ok (.invokevirtual 352, 3) := by decide +kernel
theorem dX11_cases_4 : decode cX11_cases 4 = .ok (.aload_n 0, 1) := by decide +kernel
theorem dX11_cases_5 : decode cX11_cases 5 = .ok (.invokevirtual 385, 3) := by decide +kernel
theorem dX11_cases_8 : decode cX11_cases 8 = .ok (.ireturn, 1) := by decide +kernel
set_option maxRecDepth 20000 in
theorem ggX11_all_X11_copies : GoodIn wsX11_all wsX11_copies := goodIn_r _ [7, 8, 9, 10, 2, 11, 29, 30, 31, 32, 33, 34, 35, 36, 37, 38, 39, 40, 41, 42, 43, 44, 45, 46, 47, 48, 49, 50, 51, 52, 53, 54, 55, 56, 57, 58, 59, 60, 61, 62, 63, 64, 65, 66, 67, 68, 69, 70, 71, 72, 73, 74, 75, 76, 77, 78, 79, 80, 81, 82, 83, 84, 85, 86] (by decide +kernel) (by decide +kernel)
set_option maxRecDepth 20000 in
theorem gX11_all_X11_copies : GoodIn wsX11_all (wsV RX11 352 RX11 yX11_copies wsX11_copies) := goodIn_app (goodIn_of _ (by decide +kernel)) ggX11_all_X11_copies
theorem dX11_all_0 : decode cX11_all 0 = .ok (.aload_n 0, 1) := by decide +kernel
theorem dX11_all_1 : decode cX11_all 1 = .ok (.invokevirtual 352, 3) := by decide +kernel
theorem dX11_all_4 : decode cX11_all 4 = .ok (.iconst 1, 1) := by decide +kernel
theorem dX11_all_5 : decode cX11_all 5 = .ok (.istore_n 1, 1) := by decide +kernel
theorem dX11_all_6 : decode cX11_all 6 = .ok (.iconst 0, 1) := by decide +kernel
theorem dX11_all_7 : decode cX11_all 7 = .ok (.istore_n 2, 1) := by decide +kernel
theorem dX11_all_8 : decode cX11_all 8 = .ok (.iload_n 2, 1) := by decide +kernel
theorem dX11_all_9 : decode cX11_all 9 = .ok (.aload_n 0, 1) := by decide +kernel
theorem dX11_all_10 : decode cX11_all 10 = .ok (.getfield 40, 3) := by decide +kernel
theorem dX11_all_13 : decode cX11_all 13 = .ok (.aload_n 0, 1) := by decide +kernel
theorem dX11_all_14 : decode cX11_all 14 = .ok (.getfield 215, 3) := by decide +kernel
theorem dX11_all_17 : decode cX11_all 17 = .ok (.iaload, 1) := by decide +kernel
theorem dX11_all_18 : decode cX11_all 18 = .ok (.if_icmp .ge 17, 3) := by decide +kernel
theorem dX11_all_35 : decode cX11_all 35 = .ok (.iload_n 1, 1) := by decide +kernel
theorem dX11_all_36 : decode cX11_all 36 = .ok (.ireturn, 1) := by decide +kernel
set_option maxRecDepth 20000 in
theorem ggX11_likeliest_X11_copies : GoodIn wsX11_likeliest wsX11_copies := goodIn_r _ [5, 6, 7, 8, 9, 10, 74, 75, 76, 77, 78, 79, 80, 81, 82, 83, 84, 85, 86, 87, 88, 89, 90, 91, 92, 93, 94, 95, 96, 97, 98, 99, 100, 101, 102, 103, 104, 105, 106, 107, 108, 109, 110, 111, 112, 113, 114, 115, 116, 117, 118, 119, 120, 121, 122, 123, 124, 125, 126, 127, 128, 129, 130, 131] (by decide +kernel) (by decide +kernel)
set_option maxRecDepth 20000 in
theorem gX11_likeliest_X11_copies : GoodIn wsX11_likeliest (wsV RX11 352 RX11 yX11_copies wsX11_copies) := goodIn_app (goodIn_of _ (by decide +kernel)) ggX11_likeliest_X11_copies
set_option maxRecDepth 20000 in
theorem ggX11_likeliest_X11_bestFor : GoodIn wsX11_likeliest wsX11_bestFor := goodIn_r _ [14, 15, 9, 16, 17, 18, 19, 4, 20, 21, 22, 23, 24, 6, 25, 26, 27, 28, 29, 30, 31, 32, 33, 34, 35, 36, 37, 38, 39, 40, 41, 42, 43, 44, 45, 46, 47, 48, 49, 50, 51, 52, 53, 54, 55, 56, 57, 58, 59, 60, 61, 62, 63, 64, 65, 66, 67, 68, 69, 70, 71, 72, 73, 74, 75, 76, 77, 78, 79, 80, 81, 82, 83, 84, 85, 86, 87, 88, 89, 90, 91, 92, 93, 94, 95, 96, 97, 98, 99, 100, 101, 102, 103, 104, 105, 106, 107, 108, 109, 110, 111, 112, 113, 114, 115, 116, 117, 118, 119, 120, 121, 122, 123, 124, 125, 126, 127, 128, 129, 130, 131] (by decide +kernel) (by decide +kernel)
set_option maxRecDepth 20000 in
theorem gX11_likeliest_X11_bestFor : GoodIn wsX11_likeliest (wsV RX11 398 RX11 yX11_bestFor wsX11_bestFor) := goodIn_app (goodIn_of _ (by decide +kernel)) ggX11_likeliest_X11_bestFor
theorem dX11_likeliest_0 : decode cX11_likeliest 0 = .ok (.aload_n 0, 1) := by decide +kernel
theorem dX11_likeliest_1 : decode cX11_likeliest 1 = .ok (.invokevirtual 352, 3) := by decide +kernel
theorem dX11_likeliest_4 : decode cX11_likeliest 4 = .ok (.aload_n 0, 1) := by decide +kernel
theorem dX11_likeliest_5 : decode cX11_likeliest 5 = .ok (.iconst (-1), 1) := by decide +kernel
theorem dX11_likeliest_6 : decode cX11_likeliest 6 = .ok (.invokevirtual 398, 3) := by decide +kernel
theorem dX11_likeliest_9 : decode cX11_likeliest 9 = .ok (.ireturn, 1) := by decide +kernel
set_option maxRecDepth 20000 in
theorem ggX11_bears_X11_isParty : GoodIn wsX11_bears wsX11_isParty := goodIn_r _ [5, 6, 7, 8, 9, 4, 10, 90, 91, 92, 93, 94, 95, 96, 97, 98, 99, 100, 101, 102, 103, 104, 105, 106, 107, 108, 109, 110, 111, 112, 113, 114, 115, 116, 117, 118, 119, 120, 121, 122, 123, 124, 125, 126, 127, 128, 129, 130, 131, 132, 133, 134, 135, 136, 137, 138, 139, 140, 141, 142, 143, 144, 145, 146, 147] (by decide +kernel) (by decide +kernel)
set_option maxRecDepth 20000 in
theorem gX11_bears_X11_isParty : GoodIn wsX11_bears (wsV RX11 358 RX11 yX11_isParty wsX11_isParty) := goodIn_app (goodIn_of _ (by decide +kernel)) ggX11_bears_X11_isParty
theorem dX11_bears_0 : decode cX11_bears 0 = .ok (.aload_n 0, 1) := by decide +kernel
theorem dX11_bears_1 : decode cX11_bears 1 = .ok (.iload_n 1, 1) := by decide +kernel
theorem dX11_bears_2 : decode cX11_bears 2 = .ok (.invokevirtual 358, 3) := by decide +kernel
theorem dX11_bears_5 : decode cX11_bears 5 = .ok (.ifCond .eq 11, 3) := by decide +kernel
theorem dX11_bears_16 : decode cX11_bears 16 = .ok (.iconst (-1), 1) := by decide +kernel
theorem dX11_bears_17 : decode cX11_bears 17 = .ok (.ireturn, 1) := by decide +kernel
set_option maxRecDepth 20000 in
theorem ggX11_safest_X11_isParty : GoodIn wsX11_safest wsX11_isParty := goodIn_r _ [5, 6, 7, 8, 9, 4, 10, 82, 83, 84, 85, 86, 87, 88, 89, 90, 91, 92, 93, 94, 95, 96, 97, 98, 99, 100, 101, 102, 103, 104, 105, 106, 107, 108, 109, 110, 111, 112, 113, 114, 115, 116, 117, 118, 119, 120, 121, 122, 123, 124, 125, 126, 127, 128, 129, 130, 131, 132, 133, 134, 135, 136, 137, 138, 139] (by decide +kernel) (by decide +kernel)
set_option maxRecDepth 20000 in
theorem gX11_safest_X11_isParty : GoodIn wsX11_safest (wsV RX11 358 RX11 yX11_isParty wsX11_isParty) := goodIn_app (goodIn_of _ (by decide +kernel)) ggX11_safest_X11_isParty
theorem dX11_safest_0 : decode cX11_safest 0 = .ok (.aload_n 0, 1) := by decide +kernel
theorem dX11_safest_1 : decode cX11_safest 1 = .ok (.iload_n 1, 1) := by decide +kernel
theorem dX11_safest_2 : decode cX11_safest 2 = .ok (.invokevirtual 358, 3) := by decide +kernel
theorem dX11_safest_5 : decode cX11_safest 5 = .ok (.ifCond .ne 5, 3) := by decide +kernel
theorem dX11_safest_8 : decode cX11_safest 8 = .ok (.iconst (-1), 1) := by decide +kernel
theorem dX11_safest_9 : decode cX11_safest 9 = .ok (.ireturn, 1) := by decide +kernel
set_option maxRecDepth 20000 in
theorem ggX11_fillsChances_X11_copies : GoodIn wsX11_fillsChances wsX11_copies := goodIn_r _ [6, 7, 8, 9, 10, 11, 39, 40, 41, 42, 43, 44, 45, 46, 47, 48, 49, 50, 51, 52, 53, 54, 55, 56, 57, 58, 59, 60, 61, 62, 63, 64, 65, 66, 67, 68, 69, 70, 71, 72, 73, 74, 75, 76, 77, 78, 79, 80, 81, 82, 83, 84, 85, 86, 87, 88, 89, 90, 91, 92, 93, 94, 95, 96] (by decide +kernel) (by decide +kernel)
set_option maxRecDepth 20000 in
theorem gX11_fillsChances_X11_copies : GoodIn wsX11_fillsChances (wsV RX11 352 RX11 yX11_copies wsX11_copies) := goodIn_app (goodIn_of _ (by decide +kernel)) ggX11_fillsChances_X11_copies
set_option maxRecDepth 20000 in
theorem ggX11_fillsChances_X11_guesses : GoodIn wsX11_fillsChances wsX11_guesses := goodIn_r _ [15, 16, 17, 10, 39, 40, 41, 42, 43, 44, 45, 46, 47, 48, 49, 50, 51, 52, 53, 54, 55, 56, 57, 58, 59, 60, 61, 62, 63, 64, 65, 66, 67, 68, 69, 70, 71, 72, 73, 74, 75, 76, 77, 78, 79, 80, 81, 82, 83, 84, 85, 86, 87, 88, 89, 90, 91, 92, 93, 94, 95, 96] (by decide +kernel) (by decide +kernel)
set_option maxRecDepth 20000 in
theorem gX11_fillsChances_X11_guesses : GoodIn wsX11_fillsChances (wsV RX11 285 RX11 yX11_guesses wsX11_guesses) := goodIn_app (goodIn_of _ (by decide +kernel)) ggX11_fillsChances_X11_guesses
set_option maxRecDepth 20000 in
theorem ggX11_fillsChances_X11_chanceOf : GoodIn wsX11_fillsChances wsX11_chanceOf := goodIn_r _ [21, 17, 10, 22, 23, 24, 5, 25, 16, 26, 27, 28, 29, 30, 31, 32, 33, 7, 34, 35, 36, 37, 38, 39, 40, 41, 42, 43, 44, 45, 46, 47, 48, 49, 50, 51, 52, 53, 54, 55, 56, 57, 58, 59, 60, 61, 62, 63, 64, 65, 66, 67, 68, 69, 70, 71, 72, 73, 74, 75, 76, 77, 78, 79, 80, 81, 82, 83, 84, 85, 86, 87, 88, 89, 90, 91, 92, 93, 94, 95, 96] (by decide +kernel) (by decide +kernel)
set_option maxRecDepth 20000 in
theorem gX11_fillsChances_X11_chanceOf : GoodIn wsX11_fillsChances (wsV RX11 392 RX11 yX11_chanceOf wsX11_chanceOf) := goodIn_app (goodIn_of _ (by decide +kernel)) ggX11_fillsChances_X11_chanceOf
theorem dX11_fillsChances_0 : decode cX11_fillsChances 0 = .ok (.aload_n 0, 1) := by decide +kernel
theorem dX11_fillsChances_1 : decode cX11_fillsChances 1 = .ok (.invokevirtual 352, 3) := by decide +kernel
theorem dX11_fillsChances_4 : decode cX11_fillsChances 4 = .ok (.iconst 0, 1) := by decide +kernel
theorem dX11_fillsChances_5 : decode cX11_fillsChances 5 = .ok (.istore_n 1, 1) := by decide +kernel
theorem dX11_fillsChances_6 : decode cX11_fillsChances 6 = .ok (.iload_n 1, 1) := by decide +kernel
theorem dX11_fillsChances_7 : decode cX11_fillsChances 7 = .ok (.aload_n 0, 1) := by decide +kernel
theorem dX11_fillsChances_8 : decode cX11_fillsChances 8 = .ok (.invokevirtual 285, 3) := by decide +kernel
theorem dX11_fillsChances_11 : decode cX11_fillsChances 11 = .ok (.if_icmp .ge 20, 3) := by decide +kernel
theorem dX11_fillsChances_14 : decode cX11_fillsChances 14 = .ok (.aload_n 0, 1) := by decide +kernel
theorem dX11_fillsChances_15 : decode cX11_fillsChances 15 = .ok (.getfield 113, 3) := by decide +kernel
theorem dX11_fillsChances_18 : decode cX11_fillsChances 18 = .ok (.iload_n 1, 1) := by decide +kernel
theorem dX11_fillsChances_19 : decode cX11_fillsChances 19 = .ok (.aload_n 0, 1) := by decide +kernel
theorem dX11_fillsChances_20 : decode cX11_fillsChances 20 = .ok (.iload_n 1, 1) := by decide +kernel
theorem dX11_fillsChances_21 : decode cX11_fillsChances 21 = .ok (.invokevirtual 392, 3) := by decide +kernel
theorem dX11_fillsChances_24 : decode cX11_fillsChances 24 = .ok (.iastore, 1) := by decide +kernel
theorem dX11_fillsChances_25 : decode cX11_fillsChances 25 = .ok (.iinc 1 1, 3) := by decide +kernel
theorem dX11_fillsChances_28 : decode cX11_fillsChances 28 = .ok (.goto (-22), 3) := by decide +kernel
theorem dX11_fillsChances_31 : decode cX11_fillsChances 31 = .ok (.return_, 1) := by decide +kernel
theorem dX11_isAhead_0 : decode cX11_isAhead 0 = .ok (.aload_n 0, 1) := by decide +kernel
theorem dX11_isAhead_1 : decode cX11_isAhead 1 = .ok (.getfield 113, 3) := by decide +kernel
theorem dX11_isAhead_4 : decode cX11_isAhead 4 = .ok (.iload_n 1, 1) := by decide +kernel
theorem dX11_isAhead_5 : decode cX11_isAhead 5 = .ok (.iaload, 1) := by decide +kernel
theorem dX11_isAhead_6 : decode cX11_isAhead 6 = .ok (.aload_n 0, 1) := by decide +kernel
theorem dX11_isAhead_7 : decode cX11_isAhead 7 = .ok (.getfield 113, 3) := by decide +kernel
theorem dX11_isAhead_10 : decode cX11_isAhead 10 = .ok (.iload_n 2, 1) := by decide +kernel
theorem dX11_isAhead_11 : decode cX11_isAhead 11 = .ok (.iaload, 1) := by decide +kernel
theorem dX11_isAhead_12 : decode cX11_isAhead 12 = .ok (.if_icmp .gt 23, 3) := by decide +kernel
theorem dX11_isAhead_15 : decode cX11_isAhead 15 = .ok (.aload_n 0, 1) := by decide +kernel
theorem dX11_isAhead_16 : decode cX11_isAhead 16 = .ok (.getfield 113, 3) := by decide +kernel
theorem dX11_isAhead_19 : decode cX11_isAhead 19 = .ok (.iload_n 1, 1) := by decide +kernel
theorem dX11_isAhead_20 : decode cX11_isAhead 20 = .ok (.iaload, 1) := by decide +kernel
theorem dX11_isAhead_21 : decode cX11_isAhead 21 = .ok (.aload_n 0, 1) := by decide +kernel
theorem dX11_isAhead_22 : decode cX11_isAhead 22 = .ok (.getfield 113, 3) := by decide +kernel
theorem dX11_isAhead_25 : decode cX11_isAhead 25 = .ok (.iload_n 2, 1) := by decide +kernel
theorem dX11_isAhead_26 : decode cX11_isAhead 26 = .ok (.iaload, 1) := by decide +kernel
theorem dX11_isAhead_27 : decode cX11_isAhead 27 = .ok (.if_icmp .ne 12, 3) := by decide +kernel
theorem dX11_isAhead_30 : decode cX11_isAhead 30 = .ok (.iload_n 1, 1) := by decide +kernel
theorem dX11_isAhead_31 : decode cX11_isAhead 31 = .ok (.iload_n 2, 1) := by decide +kernel
theorem dX11_isAhead_32 : decode cX11_isAhead 32 = .ok (.if_icmp .ge 7, 3) := by decide +kernel
theorem dX11_isAhead_39 : decode cX11_isAhead 39 = .ok (.iconst 0, 1) := by decide +kernel
theorem dX11_isAhead_40 : decode cX11_isAhead 40 = .ok (.ireturn, 1) := by decide +kernel
theorem dX11_manyIn_0 : decode cX11_manyIn 0 = .ok (.iconst 0, 1) := by decide +kernel
theorem dX11_manyIn_1 : decode cX11_manyIn 1 = .ok (.istore_n 2, 1) := by decide +kernel
theorem dX11_manyIn_2 : decode cX11_manyIn 2 = .ok (.iconst 0, 1) := by decide +kernel
theorem dX11_manyIn_3 : decode cX11_manyIn 3 = .ok (.istore_n 3, 1) := by decide +kernel
theorem dX11_manyIn_4 : decode cX11_manyIn 4 = .ok (.iload_n 3, 1) := by decide +kernel
theorem dX11_manyIn_5 : decode cX11_manyIn 5 = .ok (.aload_n 0, 1) := by decide +kernel
theorem dX11_manyIn_6 : decode cX11_manyIn 6 = .ok (.getfield 49, 3) := by decide +kernel
theorem dX11_manyIn_9 : decode cX11_manyIn 9 = .ok (.aload_n 0, 1) := by decide +kernel
theorem dX11_manyIn_10 : decode cX11_manyIn 10 = .ok (.getfield 215, 3) := by decide +kernel
theorem dX11_manyIn_13 : decode cX11_manyIn 13 = .ok (.iaload, 1) := by decide +kernel
theorem dX11_manyIn_14 : decode cX11_manyIn 14 = .ok (.if_icmp .ge 25, 3) := by decide +kernel
theorem dX11_manyIn_39 : decode cX11_manyIn 39 = .ok (.iload_n 2, 1) := by decide +kernel
theorem dX11_manyIn_40 : decode cX11_manyIn 40 = .ok (.ireturn, 1) := by decide +kernel
theorem dX11_doesFit_0 : decode cX11_doesFit 0 = .ok (.aload_n 0, 1) := by decide +kernel
theorem dX11_doesFit_1 : decode cX11_doesFit 1 = .ok (.getfield 113, 3) := by decide +kernel
theorem dX11_doesFit_4 : decode cX11_doesFit 4 = .ok (.iload_n 1, 1) := by decide +kernel
theorem dX11_doesFit_5 : decode cX11_doesFit 5 = .ok (.iaload, 1) := by decide +kernel
theorem dX11_doesFit_6 : decode cX11_doesFit 6 = .ok (.ifCond .ne 5, 3) := by decide +kernel
theorem dX11_doesFit_11 : decode cX11_doesFit 11 = .ok (.iconst 0, 1) := by decide +kernel
theorem dX11_doesFit_12 : decode cX11_doesFit 12 = .ok (.istore 4, 2) := by decide +kernel
theorem dX11_doesFit_14 : decode cX11_doesFit 14 = .ok (.iconst 0, 1) := by decide +kernel
theorem dX11_doesFit_15 : decode cX11_doesFit 15 = .ok (.istore 5, 2) := by decide +kernel
theorem dX11_doesFit_17 : decode cX11_doesFit 17 = .ok (.iload 5, 2) := by decide +kernel
theorem dX11_doesFit_19 : decode cX11_doesFit 19 = .ok (.iload_n 2, 1) := by decide +kernel
theorem dX11_doesFit_20 : decode cX11_doesFit 20 = .ok (.if_icmp .ge 22, 3) := by decide +kernel
theorem dX11_doesFit_42 : decode cX11_doesFit 42 = .ok (.iload 4, 2) := by decide +kernel
theorem dX11_doesFit_44 : decode cX11_doesFit 44 = .ok (.iload_n 3, 1) := by decide +kernel
theorem dX11_doesFit_45 : decode cX11_doesFit 45 = .ok (.if_icmp .gt 7, 3) := by decide +kernel
theorem dX11_doesFit_48 : decode cX11_doesFit 48 = .ok (.iconst 1, 1) := by decide +kernel
theorem dX11_doesFit_49 : decode cX11_doesFit 49 = .ok (.goto 4, 3) := by decide +kernel
theorem dX11_doesFit_53 : decode cX11_doesFit 53 = .ok (.ireturn, 1) := by decide +kernel
set_option maxRecDepth 20000 in
theorem ggX11_isAsked_X11_in : GoodIn wsX11_isAsked wsX11_in := goodIn_r _ [5] (by decide +kernel) (by decide +kernel)
set_option maxRecDepth 20000 in
theorem gX11_isAsked_X11_in : GoodIn wsX11_isAsked (va_wsS RX11 281 yX11_in wsX11_in) := goodIn_app (goodIn_of _ (by decide +kernel)) ggX11_isAsked_X11_in
theorem dX11_isAsked_0 : decode cX11_isAsked 0 = .ok (.iload_n 1, 1) := by decide +kernel
theorem dX11_isAsked_1 : decode cX11_isAsked 1 = .ok (.iconst 0, 1) := by decide +kernel
theorem dX11_isAsked_2 : decode cX11_isAsked 2 = .ok (.aload_n 0, 1) := by decide +kernel
theorem dX11_isAsked_3 : decode cX11_isAsked 3 = .ok (.getfield 233, 3) := by decide +kernel
theorem dX11_isAsked_6 : decode cX11_isAsked 6 = .ok (.invokestatic 281, 3) := by decide +kernel
theorem dX11_isAsked_9 : decode cX11_isAsked 9 = .ok (.ifCond .eq 16, 3) := by decide +kernel
theorem dX11_isAsked_12 : decode cX11_isAsked 12 = .ok (.iload_n 2, 1) := by decide +kernel
theorem dX11_isAsked_13 : decode cX11_isAsked 13 = .ok (.iconst 0, 1) := by decide +kernel
theorem dX11_isAsked_14 : decode cX11_isAsked 14 = .ok (.iconst 3, 1) := by decide +kernel
theorem dX11_isAsked_15 : decode cX11_isAsked 15 = .ok (.invokestatic 281, 3) := by decide +kernel
theorem dX11_isAsked_18 : decode cX11_isAsked 18 = .ok (.ifCond .eq 7, 3) := by decide +kernel
theorem dX11_isAsked_21 : decode cX11_isAsked 21 = .ok (.iconst 1, 1) := by decide +kernel
theorem dX11_isAsked_22 : decode cX11_isAsked 22 = .ok (.goto 4, 3) := by decide +kernel
theorem dX11_isAsked_25 : decode cX11_isAsked 25 = .ok (.iconst 0, 1) := by decide +kernel
theorem dX11_isAsked_26 : decode cX11_isAsked 26 = .ok (.ireturn, 1) := by decide +kernel
theorem dX11_partiesIn_0 : decode cX11_partiesIn 0 = .ok (.iconst 0, 1) := by decide +kernel
theorem dX11_partiesIn_1 : decode cX11_partiesIn 1 = .ok (.istore_n 2, 1) := by decide +kernel
theorem dX11_partiesIn_2 : decode cX11_partiesIn 2 = .ok (.iconst 0, 1) := by decide +kernel
theorem dX11_partiesIn_3 : decode cX11_partiesIn 3 = .ok (.istore_n 3, 1) := by decide +kernel
theorem dX11_partiesIn_4 : decode cX11_partiesIn 4 = .ok (.iload_n 3, 1) := by decide +kernel
theorem dX11_partiesIn_5 : decode cX11_partiesIn 5 = .ok (.aload_n 0, 1) := by decide +kernel
theorem dX11_partiesIn_6 : decode cX11_partiesIn 6 = .ok (.getfield 49, 3) := by decide +kernel
theorem dX11_partiesIn_9 : decode cX11_partiesIn 9 = .ok (.aload_n 0, 1) := by decide +kernel
theorem dX11_partiesIn_10 : decode cX11_partiesIn 10 = .ok (.getfield 215, 3) := by decide +kernel
theorem dX11_partiesIn_13 : decode cX11_partiesIn 13 = .ok (.iaload, 1) := by decide +kernel
theorem dX11_partiesIn_14 : decode cX11_partiesIn 14 = .ok (.if_icmp .ge 28, 3) := by decide +kernel
theorem dX11_partiesIn_42 : decode cX11_partiesIn 42 = .ok (.iload_n 2, 1) := by decide +kernel
theorem dX11_partiesIn_43 : decode cX11_partiesIn 43 = .ok (.ireturn, 1) := by decide +kernel
set_option maxHeartbeats 4000000 in
set_option maxRecDepth 100000 in
theorem c_manyIn (l : Launch) (dC : Nat → ClassId) (dI : Nat → Nat → Nat) (cB cI cJ cZ cS : ClassId) (h : Nat) (a : Nat → Nat) (v : Nat → Int32) (f : Nat → Nat → Int32) (g : Nat → Nat → Int64) (hv18 : v 18 = 0) (hf23_0 : f 23 0 = 0) (x1 : Int32) : CI l yX11_manyIn wsX11_manyIn ({ frames := 0, cells := 0, slots := 0, locals := 0 }) (dC, dI) (tysA cB cI cJ cZ cS) (mw cB cI cJ cZ h a v f g) [.ref h, .int x1] (fun r w => w = (mw cB cI cJ cZ h a v f g) ∧ r = 0) := by
  refine open_I (cc := cX11_manyIn) (maxL := 4) (ret := (some .int)) (by decide) rfl (Nat.le_of_ble_eq_true rfl) ?_
  intro p e s m below meth c A ls E
  obtain ⟨C, hr, hlocks, hnm, hA, hP, hK, hD, hN, hl⟩ := E
  obtain ⟨hx, hb, hml, hown, hts⟩ := id C
  have hS : va_S A s.heap s.heap [] := va_S.rf
  have hl : lv_has ls 4 [(0, .ref h), (1, .int x1)] := hl
  have inX11 : ∀ w ∈ u_ws RX11 TX11 58, w ∈ wsX11_manyIn := fun _ h => List.mem_cons_of_mem _ (List.mem_append_right _ h)
  have L215 : Cond.fieldLink RX11 215 "GuessFerryModel" "live" "I" ∈ wsX11_manyIn := by decide +kernel
  have L49 : Cond.fieldLink RX11 49 "GuessFerryModel" "parties" "[I" ∈ wsX11_manyIn := by decide +kernel
  refine lv_iconst (v := 0) hx hb dX11_manyIn_0 (by decide) ?_
  refine lv_istore_n (lv' := [(2, .int 0), (0, .ref h), (1, .int x1)]) hx hb dX11_manyIn_1 rfl hl (by decide) rfl (fun ls hl => ?_)
  refine lv_iconst (v := 0) hx hb dX11_manyIn_2 (by decide) ?_
  refine lv_istore_n (lv' := [(3, .int 0), (2, .int 0), (0, .ref h), (1, .int x1)]) hx hb dX11_manyIn_3 rfl hl (by decide) rfl (fun ls hl => ?_)
  refine lv_iload_n hx hb dX11_manyIn_4 rfl (lv_at hl 0 rfl) ?_
  refine lv_aload_n hx hb dX11_manyIn_5 rfl (lv_at hl 2 rfl) ?_
  refine q_get (v := .ref (a 23)) C inX11 hK hP 0 rfl rfl 23 (by decide) rfl L49 rfl dX11_manyIn_6 ?_
  refine lv_aload_n hx hb dX11_manyIn_9 rfl (lv_at hl 2 rfl) ?_
  refine q_get (v := .int (v 18)) C inX11 hK hP 0 rfl rfl 18 (by decide) rfl L215 rfl dX11_manyIn_10 ?_
  refine q_top (y := 0) (hv18) ?_
  refine q_iald (x := 0) C hK hP 11 1 rfl rfl (vp_lit (by decide +kernel)) dX11_manyIn_13 (hf23_0) ?_
  refine lv_icmp_ge (tgt := 39) hx hb dX11_manyIn_14 (by decide) (fun _ => ?_) (fun h => absurd (by decide +kernel) h)
  refine lv_iload_n hx hb dX11_manyIn_39 rfl (lv_at hl 1 rfl) ?_
  exact q_iret C hr hlocks hK hP hD hS (Nat.le_of_ble_eq_true rfl) (Nat.le_of_ble_eq_true rfl) dX11_manyIn_40 (⟨rfl, rfl⟩)

set_option maxHeartbeats 4000000 in
set_option maxRecDepth 100000 in
theorem c_partiesIn (l : Launch) (dC : Nat → ClassId) (dI : Nat → Nat → Nat) (cB cI cJ cZ cS : ClassId) (h : Nat) (a : Nat → Nat) (v : Nat → Int32) (f : Nat → Nat → Int32) (g : Nat → Nat → Int64) (hv18 : v 18 = 0) (hf23_0 : f 23 0 = 0) (x1 : Int32) : CI l yX11_partiesIn wsX11_partiesIn ({ frames := 0, cells := 0, slots := 0, locals := 0 }) (dC, dI) (tysA cB cI cJ cZ cS) (mw cB cI cJ cZ h a v f g) [.ref h, .int x1] (fun r w => w = (mw cB cI cJ cZ h a v f g) ∧ r = 0) := by
  refine open_I (cc := cX11_partiesIn) (maxL := 4) (ret := (some .int)) (by decide) rfl (Nat.le_of_ble_eq_true rfl) ?_
  intro p e s m below meth c A ls E
  obtain ⟨C, hr, hlocks, hnm, hA, hP, hK, hD, hN, hl⟩ := E
  obtain ⟨hx, hb, hml, hown, hts⟩ := id C
  have hS : va_S A s.heap s.heap [] := va_S.rf
  have hl : lv_has ls 4 [(0, .ref h), (1, .int x1)] := hl
  have inX11 : ∀ w ∈ u_ws RX11 TX11 58, w ∈ wsX11_partiesIn := fun _ h => List.mem_cons_of_mem _ (List.mem_append_right _ h)
  have L215 : Cond.fieldLink RX11 215 "GuessFerryModel" "live" "I" ∈ wsX11_partiesIn := by decide +kernel
  have L49 : Cond.fieldLink RX11 49 "GuessFerryModel" "parties" "[I" ∈ wsX11_partiesIn := by decide +kernel
  refine lv_iconst (v := 0) hx hb dX11_partiesIn_0 (by decide) ?_
  refine lv_istore_n (lv' := [(2, .int 0), (0, .ref h), (1, .int x1)]) hx hb dX11_partiesIn_1 rfl hl (by decide) rfl (fun ls hl => ?_)
  refine lv_iconst (v := 0) hx hb dX11_partiesIn_2 (by decide) ?_
  refine lv_istore_n (lv' := [(3, .int 0), (2, .int 0), (0, .ref h), (1, .int x1)]) hx hb dX11_partiesIn_3 rfl hl (by decide) rfl (fun ls hl => ?_)
  refine lv_iload_n hx hb dX11_partiesIn_4 rfl (lv_at hl 0 rfl) ?_
  refine lv_aload_n hx hb dX11_partiesIn_5 rfl (lv_at hl 2 rfl) ?_
  refine q_get (v := .ref (a 23)) C inX11 hK hP 0 rfl rfl 23 (by decide) rfl L49 rfl dX11_partiesIn_6 ?_
  refine lv_aload_n hx hb dX11_partiesIn_9 rfl (lv_at hl 2 rfl) ?_
  refine q_get (v := .int (v 18)) C inX11 hK hP 0 rfl rfl 18 (by decide) rfl L215 rfl dX11_partiesIn_10 ?_
  refine q_top (y := 0) (hv18) ?_
  refine q_iald (x := 0) C hK hP 11 1 rfl rfl (vp_lit (by decide +kernel)) dX11_partiesIn_13 (hf23_0) ?_
  refine lv_icmp_ge (tgt := 42) hx hb dX11_partiesIn_14 (by decide) (fun _ => ?_) (fun h => absurd (by decide +kernel) h)
  refine lv_iload_n hx hb dX11_partiesIn_42 rfl (lv_at hl 1 rfl) ?_
  exact q_iret C hr hlocks hK hP hD hS (Nat.le_of_ble_eq_true rfl) (Nat.le_of_ble_eq_true rfl) dX11_partiesIn_43 (⟨rfl, rfl⟩)

set_option maxHeartbeats 4000000 in
set_option maxRecDepth 100000 in
theorem c_fillsChances (l : Launch) (dC : Nat → ClassId) (dI : Nat → Nat → Nat) (cB cI cJ cZ cS : ClassId) (h : Nat) (a : Nat → Nat) (v : Nat → Int32) (f : Nat → Nat → Int32) (g : Nat → Nat → Int64) (hv18 : v 18 = 0) (hf26_0 : f 26 0 = 0) (hv45 : v 45 = 0) (hf20_0 : f 20 0 = 0) (hf46_0 : f 46 0 = 1) (hrow : ∀ j, j < 29 → f 44 j = f 43 j) : CV l yX11_fillsChances wsX11_fillsChances ({ frames := 1, cells := 0, slots := 0, locals := 24 }) (dC, dI) (tysA cB cI cJ cZ cS) (mw cB cI cJ cZ h a v f g) [.ref h] (fun w => w = (mw cB cI cJ cZ h a v (va_up f 50 (upd (f 50) 0 1)) g)) := by
  refine open_V (cc := cX11_fillsChances) (maxL := 2) (ret := none) (by decide) rfl (Nat.le_of_ble_eq_true rfl) ?_
  intro p e s m below meth c A ls E
  obtain ⟨C, hr, hlocks, hnm, hA, hP, hK, hD, hN, hl⟩ := E
  obtain ⟨hx, hb, hml, hown, hts⟩ := id C
  have hS : va_S A s.heap s.heap [] := va_S.rf
  have hl : lv_has ls 2 [(0, .ref h)] := hl
  have inX11 : ∀ w ∈ u_ws RX11 TX11 58, w ∈ wsX11_fillsChances := by decide +kernel
  have L113 : Cond.fieldLink RX11 113 "GuessFerryModel" "chanceBy" "[I" ∈ wsX11_fillsChances := by decide +kernel
  refine lv_aload_n hx hb dX11_fillsChances_0 rfl (lv_at hl 0 rfl) ?_
  refine q_govF (va_runV (As := []) (rest := []) C (c_copies l dC dI cB cI cJ cZ cS h a v f g hv18 hf26_0 hv45 (hrow) _) (cwV 0 hts gX11_fillsChances_X11_copies rfl rfl rfl (by decide +kernel) ⟨Nat.le_of_ble_eq_true rfl, Nat.le_of_ble_eq_true rfl⟩) (q_preV hK hP (ci := 11) (q0 := 0) rfl rfl rfl (q_preF hN hK hP hD)) rfl rfl hl.1 rfl (lv_room (Nat.le_of_ble_eq_true rfl)) dX11_fillsChances_1 ⟨Nat.le_of_ble_eq_true rfl, Nat.le_of_ble_eq_true rfl⟩) hD hS hA (fun w1 H locs hw hP hD hS => ?_)
  obtain rfl := hw
  refine lv_iconst (v := 0) hx hb dX11_fillsChances_4 (by decide) ?_
  refine lv_istore_n (lv' := [(1, .int 0), (0, .ref h)]) hx hb dX11_fillsChances_5 rfl hl (by decide) rfl (fun ls hl => ?_)
  refine lv_iload_n hx hb dX11_fillsChances_6 rfl (lv_at hl 0 rfl) ?_
  refine lv_aload_n hx hb dX11_fillsChances_7 rfl (lv_at hl 1 rfl) ?_
  refine q_goiF (va_runV (As := []) (rest := [.int 0]) C (c_guesses l dC dI cB cI cJ cZ cS h a v f g hv18 hf20_0 hf46_0 _) (cwV 0 hts gX11_fillsChances_X11_guesses rfl rfl rfl (by decide +kernel) ⟨Nat.le_of_ble_eq_true rfl, Nat.le_of_ble_eq_true rfl⟩) (q_preV hK hP (ci := 11) (q0 := 0) rfl rfl rfl (q_preF hN hK hP hD)) rfl rfl hl.1 rfl (lv_room (Nat.le_of_ble_eq_true rfl)) dX11_fillsChances_8 ⟨Nat.le_of_ble_eq_true rfl, Nat.le_of_ble_eq_true rfl⟩) hD hS hA (fun r w1 H locs hw hP hD hS => ?_)
  obtain ⟨rfl, rfl⟩ := hw
  refine lv_icmp_ge (tgt := 31) hx hb dX11_fillsChances_11 (by decide) (fun h => absurd h (by decide +kernel)) (fun _ => ?_)
  refine lv_aload_n hx hb dX11_fillsChances_14 rfl (lv_at hl 1 rfl) ?_
  refine q_get (v := .ref (a 50)) C inX11 hK hP 0 rfl rfl 50 (by decide) rfl L113 rfl dX11_fillsChances_15 ?_
  refine lv_iload_n hx hb dX11_fillsChances_18 rfl (lv_at hl 0 rfl) ?_
  refine lv_aload_n hx hb dX11_fillsChances_19 rfl (lv_at hl 1 rfl) ?_
  refine lv_iload_n hx hb dX11_fillsChances_20 rfl (lv_at hl 0 rfl) ?_
  refine q_goiF (va_runV (As := [.int 0]) (rest := [.int 0, .ref (a 50)]) C (c_chanceOf l dC dI cB cI cJ cZ cS h a v f g hv18 hf20_0 0 _) (cwV 1 hts gX11_fillsChances_X11_chanceOf rfl rfl rfl (by decide +kernel) ⟨Nat.le_of_ble_eq_true rfl, Nat.le_of_ble_eq_true rfl⟩) (q_preV hK hP (ci := 11) (q0 := 0) rfl rfl rfl (q_preF hN hK hP hD)) rfl rfl hl.1 rfl (lv_room (Nat.le_of_ble_eq_true rfl)) dX11_fillsChances_21 ⟨Nat.le_of_ble_eq_true rfl, Nat.le_of_ble_eq_true rfl⟩) hD hS hA (fun r w1 H locs hw hP hD hS => ?_)
  obtain ⟨rfl, rfl⟩ := hw
  refine q_iast (f2 := (upd (f 50) 0 1)) (w2 := (mw cB cI cJ cZ h a v (va_up f 50 (upd (f 50) 0 1)) g)) C hK hP hD hS 32 1 rfl rfl (vp_lit (by decide +kernel)) dX11_fillsChances_24 rfl (mw_f50 _) (fun H locs hP hD hS => ?_)
  refine lv_iinc (v := 1) (lv' := [(1, .int 1), (0, .ref h)]) hx hb dX11_fillsChances_25 hl (k := 0) rfl (by decide +kernel) (by decide) rfl (fun ls hl => ?_)
  refine lv_goto (tgt := 6) hx hb dX11_fillsChances_28 (by decide) ?_
  refine lv_iload_n hx hb dX11_fillsChances_6 rfl (lv_at hl 0 rfl) ?_
  refine lv_aload_n hx hb dX11_fillsChances_7 rfl (lv_at hl 1 rfl) ?_
  refine q_goiF (va_runV (As := []) (rest := [.int 1]) C (c_guesses l dC dI cB cI cJ cZ cS h a v (va_up f 50 (upd (f 50) 0 1)) g hv18 hf20_0 hf46_0 _) (cwV 0 hts gX11_fillsChances_X11_guesses rfl rfl rfl (by decide +kernel) ⟨Nat.le_of_ble_eq_true rfl, Nat.le_of_ble_eq_true rfl⟩) (q_preV hK hP (ci := 11) (q0 := 0) rfl rfl rfl (q_preF hN hK hP hD)) rfl rfl hl.1 rfl (lv_room (Nat.le_of_ble_eq_true rfl)) dX11_fillsChances_8 ⟨Nat.le_of_ble_eq_true rfl, Nat.le_of_ble_eq_true rfl⟩) hD hS hA (fun r w1 H locs hw hP hD hS => ?_)
  obtain ⟨rfl, rfl⟩ := hw
  refine lv_icmp_ge (tgt := 31) hx hb dX11_fillsChances_11 (by decide) (fun _ => ?_) (fun h => absurd (by decide +kernel) h)
  exact q_vret C hr hlocks hK hP hD hS (Nat.le_of_ble_eq_true rfl) (Nat.le_of_ble_eq_true rfl) dX11_fillsChances_31 (rfl)

set_option maxHeartbeats 4000000 in
set_option maxRecDepth 100000 in
theorem c_isAhead (l : Launch) (dC : Nat → ClassId) (dI : Nat → Nat → Nat) (cB cI cJ cZ cS : ClassId) (h : Nat) (a : Nat → Nat) (v : Nat → Int32) (f : Nat → Nat → Int32) (g : Nat → Nat → Int64) (hf50_0 : f 50 0 = 1) : CI l yX11_isAhead wsX11_isAhead ({ frames := 0, cells := 0, slots := 0, locals := 0 }) (dC, dI) (tysA cB cI cJ cZ cS) (mw cB cI cJ cZ h a v f g) [.ref h, .int 0, .int 0] (fun r w => w = (mw cB cI cJ cZ h a v f g) ∧ r = 0) := by
  refine open_I (cc := cX11_isAhead) (maxL := 3) (ret := (some .boolean)) (by decide) rfl (Nat.le_of_ble_eq_true rfl) ?_
  intro p e s m below meth c A ls E
  obtain ⟨C, hr, hlocks, hnm, hA, hP, hK, hD, hN, hl⟩ := E
  obtain ⟨hx, hb, hml, hown, hts⟩ := id C
  have hS : va_S A s.heap s.heap [] := va_S.rf
  have hl : lv_has ls 3 [(0, .ref h), (1, .int 0), (2, .int 0)] := hl
  have inX11 : ∀ w ∈ u_ws RX11 TX11 58, w ∈ wsX11_isAhead := fun _ h => List.mem_cons_of_mem _ (List.mem_append_right _ h)
  have L113 : Cond.fieldLink RX11 113 "GuessFerryModel" "chanceBy" "[I" ∈ wsX11_isAhead := by decide +kernel
  refine lv_aload_n hx hb dX11_isAhead_0 rfl (lv_at hl 0 rfl) ?_
  refine q_get (v := .ref (a 50)) C inX11 hK hP 0 rfl rfl 50 (by decide) rfl L113 rfl dX11_isAhead_1 ?_
  refine lv_iload_n hx hb dX11_isAhead_4 rfl (lv_at hl 1 rfl) ?_
  refine q_iald (x := 1) C hK hP 32 1 rfl rfl (vp_lit (by decide +kernel)) dX11_isAhead_5 (hf50_0) ?_
  refine lv_aload_n hx hb dX11_isAhead_6 rfl (lv_at hl 0 rfl) ?_
  refine q_get (v := .ref (a 50)) C inX11 hK hP 0 rfl rfl 50 (by decide) rfl L113 rfl dX11_isAhead_7 ?_
  refine lv_iload_n hx hb dX11_isAhead_10 rfl (lv_at hl 2 rfl) ?_
  refine q_iald (x := 1) C hK hP 32 1 rfl rfl (vp_lit (by decide +kernel)) dX11_isAhead_11 (hf50_0) ?_
  refine lv_icmp_gt (tgt := 35) hx hb dX11_isAhead_12 (by decide) (fun h => absurd h (by decide +kernel)) (fun _ => ?_)
  refine lv_aload_n hx hb dX11_isAhead_15 rfl (lv_at hl 0 rfl) ?_
  refine q_get (v := .ref (a 50)) C inX11 hK hP 0 rfl rfl 50 (by decide) rfl L113 rfl dX11_isAhead_16 ?_
  refine lv_iload_n hx hb dX11_isAhead_19 rfl (lv_at hl 1 rfl) ?_
  refine q_iald (x := 1) C hK hP 32 1 rfl rfl (vp_lit (by decide +kernel)) dX11_isAhead_20 (hf50_0) ?_
  refine lv_aload_n hx hb dX11_isAhead_21 rfl (lv_at hl 0 rfl) ?_
  refine q_get (v := .ref (a 50)) C inX11 hK hP 0 rfl rfl 50 (by decide) rfl L113 rfl dX11_isAhead_22 ?_
  refine lv_iload_n hx hb dX11_isAhead_25 rfl (lv_at hl 2 rfl) ?_
  refine q_iald (x := 1) C hK hP 32 1 rfl rfl (vp_lit (by decide +kernel)) dX11_isAhead_26 (hf50_0) ?_
  refine lv_icmp_ne (tgt := 39) hx hb dX11_isAhead_27 (by decide) (fun h => absurd (by decide +kernel) h) (fun _ => ?_)
  refine lv_iload_n hx hb dX11_isAhead_30 rfl (lv_at hl 1 rfl) ?_
  refine lv_iload_n hx hb dX11_isAhead_31 rfl (lv_at hl 2 rfl) ?_
  refine lv_icmp_ge (tgt := 39) hx hb dX11_isAhead_32 (by decide) (fun _ => ?_) (fun h => absurd (by decide +kernel) h)
  refine lv_iconst (v := 0) hx hb dX11_isAhead_39 (by decide) ?_
  exact q_zret C hr hlocks (Or.inl rfl) hK hP hD hS (Nat.le_of_ble_eq_true rfl) (Nat.le_of_ble_eq_true rfl) dX11_isAhead_40 (⟨rfl, rfl⟩)

set_option maxHeartbeats 4000000 in
set_option maxRecDepth 100000 in
theorem c_doesFit (l : Launch) (dC : Nat → ClassId) (dI : Nat → Nat → Nat) (cB cI cJ cZ cS : ClassId) (h : Nat) (a : Nat → Nat) (v : Nat → Int32) (f : Nat → Nat → Int32) (g : Nat → Nat → Int64) (hf50_0 : f 50 0 = 1) (x3 : Int32) (hl0 : ¬ x3 < 0) : CI l yX11_doesFit wsX11_doesFit ({ frames := 0, cells := 0, slots := 0, locals := 0 }) (dC, dI) (tysA cB cI cJ cZ cS) (mw cB cI cJ cZ h a v f g) [.ref h, .int 0, .int 0, .int x3] (fun r w => w = (mw cB cI cJ cZ h a v f g) ∧ r = 1) := by
  refine open_I (cc := cX11_doesFit) (maxL := 6) (ret := (some .boolean)) (by decide) rfl (Nat.le_of_ble_eq_true rfl) ?_
  intro p e s m below meth c A ls E
  obtain ⟨C, hr, hlocks, hnm, hA, hP, hK, hD, hN, hl⟩ := E
  obtain ⟨hx, hb, hml, hown, hts⟩ := id C
  have hS : va_S A s.heap s.heap [] := va_S.rf
  have hl : lv_has ls 6 [(0, .ref h), (1, .int 0), (2, .int 0), (3, .int x3)] := hl
  have inX11 : ∀ w ∈ u_ws RX11 TX11 58, w ∈ wsX11_doesFit := fun _ h => List.mem_cons_of_mem _ (List.mem_append_right _ h)
  have L113 : Cond.fieldLink RX11 113 "GuessFerryModel" "chanceBy" "[I" ∈ wsX11_doesFit := by decide +kernel
  refine lv_aload_n hx hb dX11_doesFit_0 rfl (lv_at hl 0 rfl) ?_
  refine q_get (v := .ref (a 50)) C inX11 hK hP 0 rfl rfl 50 (by decide) rfl L113 rfl dX11_doesFit_1 ?_
  refine lv_iload_n hx hb dX11_doesFit_4 rfl (lv_at hl 1 rfl) ?_
  refine q_iald (x := 1) C hK hP 32 1 rfl rfl (vp_lit (by decide +kernel)) dX11_doesFit_5 (hf50_0) ?_
  refine lv_if_ne (tgt := 11) hx hb dX11_doesFit_6 (by decide) (fun _ => ?_) (fun h => absurd h (by decide +kernel))
  refine lv_iconst (v := 0) hx hb dX11_doesFit_11 (by decide) ?_
  refine lv_istore (lv' := [(4, .int 0), (0, .ref h), (1, .int 0), (2, .int 0), (3, .int x3)]) hx hb dX11_doesFit_12 hl (by decide) rfl (fun ls hl => ?_)
  refine lv_iconst (v := 0) hx hb dX11_doesFit_14 (by decide) ?_
  refine lv_istore (lv' := [(5, .int 0), (4, .int 0), (0, .ref h), (1, .int 0), (2, .int 0), (3, .int x3)]) hx hb dX11_doesFit_15 hl (by decide) rfl (fun ls hl => ?_)
  refine lv_iload hx hb dX11_doesFit_17 (lv_at hl 0 rfl) ?_
  refine lv_iload_n hx hb dX11_doesFit_19 rfl (lv_at hl 4 rfl) ?_
  refine lv_icmp_ge (tgt := 42) hx hb dX11_doesFit_20 (by decide) (fun _ => ?_) (fun h => absurd (by decide +kernel) h)
  refine lv_iload hx hb dX11_doesFit_42 (lv_at hl 1 rfl) ?_
  refine lv_iload_n hx hb dX11_doesFit_44 rfl (lv_at hl 5 rfl) ?_
  refine lv_icmp_gt (tgt := 52) hx hb dX11_doesFit_45 (by decide) (fun h => absurd h (hl0)) (fun _ => ?_)
  refine lv_iconst (v := 1) hx hb dX11_doesFit_48 (by decide) ?_
  refine lv_goto (tgt := 53) hx hb dX11_doesFit_49 (by decide) ?_
  exact q_zret C hr hlocks (Or.inr rfl) hK hP hD hS (Nat.le_of_ble_eq_true rfl) (Nat.le_of_ble_eq_true rfl) dX11_doesFit_53 (⟨rfl, rfl⟩)

set_option maxHeartbeats 4000000 in
set_option maxRecDepth 100000 in
theorem c_isAsked (l : Launch) (dC : Nat → ClassId) (dI : Nat → Nat → Nat) (cB cI cJ cZ cS : ClassId) (h : Nat) (a : Nat → Nat) (v : Nat → Int32) (f : Nat → Nat → Int32) (g : Nat → Nat → Int64) (hv51 : v 51 = 0) (x1 : Int32) (x2 : Int32) : CI l yX11_isAsked wsX11_isAsked ({ frames := 1, cells := 0, slots := 0, locals := 22 }) (dC, dI) (tysA cB cI cJ cZ cS) (mw cB cI cJ cZ h a v f g) [.ref h, .int x1, .int x2] (fun r w => w = (mw cB cI cJ cZ h a v f g) ∧ r = (sp_ask x1 x2)) := by
  refine open_I (cc := cX11_isAsked) (maxL := 3) (ret := (some .boolean)) (by decide) rfl (Nat.le_of_ble_eq_true rfl) ?_
  intro p e s m below meth c A ls E
  obtain ⟨C, hr, hlocks, hnm, hA, hP, hK, hD, hN, hl⟩ := E
  obtain ⟨hx, hb, hml, hown, hts⟩ := id C
  have hS : va_S A s.heap s.heap [] := va_S.rf
  have hl : lv_has ls 3 [(0, .ref h), (1, .int x1), (2, .int x2)] := hl
  have inX11 : ∀ w ∈ u_ws RX11 TX11 58, w ∈ wsX11_isAsked := fun _ h => List.mem_cons_of_mem _ (List.mem_append_right _ h)
  have L233 : Cond.fieldLink RX11 233 "GuessFerryModel" "tolds" "I" ∈ wsX11_isAsked := by decide +kernel
  refine lv_iload_n hx hb dX11_isAsked_0 rfl (lv_at hl 1 rfl) ?_
  refine lv_iconst (v := 0) hx hb dX11_isAsked_1 (by decide) ?_
  refine lv_aload_n hx hb dX11_isAsked_2 rfl (lv_at hl 0 rfl) ?_
  refine q_get (v := .int (v 51)) C inX11 hK hP 0 rfl rfl 51 (by decide) rfl L233 rfl dX11_isAsked_3 ?_
  refine q_top (y := 0) (hv51) ?_
  refine q_goi0 (va_runS (As := [.int x1, .int 0, .int 0]) (rest := []) C (c_in l dC dI cB cI cJ cZ cS x1 0 0 _) (va_cwS 3 hts gX11_isAsked_X11_in rfl rfl rfl (by decide +kernel) ⟨Nat.le_of_ble_eq_true rfl, Nat.le_of_ble_eq_true rfl⟩) (q_pre0 hN hK) rfl rfl hl.1 rfl (lv_room (Nat.le_of_ble_eq_true rfl)) dX11_isAsked_6 ⟨Nat.le_of_ble_eq_true rfl, Nat.le_of_ble_eq_true rfl⟩) hP hD hS hA (fun r w1 H locs hw hP hS => ?_)
  obtain rfl := hw
  refine lv_if_eq (tgt := 25) hx hb dX11_isAsked_9 (by decide) (fun c1 => ?_) (fun c1 => ?_)
  · skip
    refine lv_iconst (v := 0) hx hb dX11_isAsked_25 (by decide) ?_
    exact q_zret C hr hlocks (Or.inl rfl) hK hP hD hS (Nat.le_of_ble_eq_true rfl) (Nat.le_of_ble_eq_true rfl) dX11_isAsked_26 (⟨rfl, by unfold sp_ask; rw [if_pos c1]⟩)
  · skip
    refine lv_iload_n hx hb dX11_isAsked_12 rfl (lv_at hl 2 rfl) ?_
    refine lv_iconst (v := 0) hx hb dX11_isAsked_13 (by decide) ?_
    refine lv_iconst (v := 3) hx hb dX11_isAsked_14 (by decide) ?_
    refine q_goi0 (va_runS (As := [.int x2, .int 0, .int 3]) (rest := []) C (c_in l dC dI cB cI cJ cZ cS x2 0 3 _) (va_cwS 3 hts gX11_isAsked_X11_in rfl rfl rfl (by decide +kernel) ⟨Nat.le_of_ble_eq_true rfl, Nat.le_of_ble_eq_true rfl⟩) (q_pre0 hN hK) rfl rfl hl.1 rfl (lv_room (Nat.le_of_ble_eq_true rfl)) dX11_isAsked_15 ⟨Nat.le_of_ble_eq_true rfl, Nat.le_of_ble_eq_true rfl⟩) hP hD hS hA (fun r w1 H locs hw hP hS => ?_)
    obtain rfl := hw
    refine lv_if_eq (tgt := 25) hx hb dX11_isAsked_18 (by decide) (fun c2 => ?_) (fun c2 => ?_)
    · skip
      refine lv_iconst (v := 0) hx hb dX11_isAsked_25 (by decide) ?_
      exact q_zret C hr hlocks (Or.inl rfl) hK hP hD hS (Nat.le_of_ble_eq_true rfl) (Nat.le_of_ble_eq_true rfl) dX11_isAsked_26 (⟨rfl, by unfold sp_ask; rw [if_neg c1]; exact c2.symm⟩)
    · skip
      refine lv_iconst (v := 1) hx hb dX11_isAsked_21 (by decide) ?_
      refine lv_goto (tgt := 26) hx hb dX11_isAsked_22 (by decide) ?_
      exact q_zret C hr hlocks (Or.inr rfl) hK hP hD hS (Nat.le_of_ble_eq_true rfl) (Nat.le_of_ble_eq_true rfl) dX11_isAsked_26 (⟨rfl, by unfold sp_ask; rw [if_neg c1]; exact ((sp_in_01 _ _ _).resolve_left c2).symm⟩)

set_option maxHeartbeats 4000000 in
set_option maxRecDepth 100000 in
theorem c_place (l : Launch) (dC : Nat → ClassId) (dI : Nat → Nat → Nat) (cB cI cJ cZ cS : ClassId) (h : Nat) (a : Nat → Nat) (v : Nat → Int32) (f : Nat → Nat → Int32) (g : Nat → Nat → Int64) (hv17 : v 17 = (-1)) : CI l yX11_place wsX11_place ({ frames := 0, cells := 0, slots := 0, locals := 0 }) (dC, dI) (tysA cB cI cJ cZ cS) (mw cB cI cJ cZ h a v f g) [.ref h] (fun r _ => r = (-1)) := by
  refine open_I (cc := cX11_place) (maxL := 1) (ret := (some .int)) (by decide) rfl (Nat.le_of_ble_eq_true rfl) ?_
  intro p e s m below meth c A ls E
  obtain ⟨C, hr, hlocks, hnm, hA, hP, hK, hD, hN, hl⟩ := E
  obtain ⟨hx, hb, hml, hown, hts⟩ := id C
  have hS : va_S A s.heap s.heap [] := va_S.rf
  have hl : lv_has ls 1 [(0, .ref h)] := hl
  have inX11 : ∀ w ∈ u_ws RX11 TX11 58, w ∈ wsX11_place := fun _ h => List.mem_cons_of_mem _ (List.mem_append_right _ h)
  have L37 : Cond.fieldLink RX11 37 "GuessFerryModel" "place" "I" ∈ wsX11_place := by decide +kernel
  refine lv_aload_n hx hb dX11_place_0 rfl (lv_at hl 0 rfl) ?_
  refine q_get (v := .int (v 17)) C inX11 hK hP 0 rfl rfl 17 (by decide) rfl L37 rfl dX11_place_1 ?_
  refine q_top (y := (-1)) (hv17) ?_
  exact q_iret C hr hlocks hK hP hD hS (Nat.le_of_ble_eq_true rfl) (Nat.le_of_ble_eq_true rfl) dX11_place_4 (rfl)

set_option maxHeartbeats 4000000 in
set_option maxRecDepth 100000 in
theorem c_wave (l : Launch) (dC : Nat → ClassId) (dI : Nat → Nat → Nat) (cB cI cJ cZ cS : ClassId) (h : Nat) (a : Nat → Nat) (v : Nat → Int32) (f : Nat → Nat → Int32) (g : Nat → Nat → Int64) (hv18 : v 18 = 0) (hf20_0 : f 20 0 = 0) (x1 : Int32) (x2 : Int32) : CI l yX11_wave wsX11_wave ({ frames := 2, cells := 0, slots := 0, locals := 43 }) (dC, dI) (tysA cB cI cJ cZ cS) (mw cB cI cJ cZ h a v f g) [.ref h, .int x1, .int x2] (fun r _ => r = (-1)) := by
  refine open_I (cc := cX11_wave) (maxL := 3) (ret := (some .int)) (by decide) rfl (Nat.le_of_ble_eq_true rfl) ?_
  intro p e s m below meth c A ls E
  obtain ⟨C, hr, hlocks, hnm, hA, hP, hK, hD, hN, hl⟩ := E
  obtain ⟨hx, hb, hml, hown, hts⟩ := id C
  have hS : va_S A s.heap s.heap [] := va_S.rf
  have hl : lv_has ls 3 [(0, .ref h), (1, .int x1), (2, .int x2)] := hl
  refine lv_aload_n hx hb dX11_wave_0 rfl (lv_at hl 0 rfl) ?_
  refine lv_iload_n hx hb dX11_wave_1 rfl (lv_at hl 1 rfl) ?_
  refine q_goiF (va_runV (As := [.int x1]) (rest := []) C (c_isWave l dC dI cB cI cJ cZ cS h a v f g hv18 hf20_0 x1 _) (cwV 1 hts gX11_wave_X11_isWave rfl rfl rfl (by decide +kernel) ⟨Nat.le_of_ble_eq_true rfl, Nat.le_of_ble_eq_true rfl⟩) (q_preV hK hP (ci := 11) (q0 := 0) rfl rfl rfl (q_preF hN hK hP hD)) rfl rfl hl.1 rfl (lv_room (Nat.le_of_ble_eq_true rfl)) dX11_wave_2 ⟨Nat.le_of_ble_eq_true rfl, Nat.le_of_ble_eq_true rfl⟩) hD hS hA (fun r w1 H locs hw hP hD hS => ?_)
  obtain ⟨rfl, rfl⟩ := hw
  refine lv_if_ne (tgt := 10) hx hb dX11_wave_5 (by decide) (fun h => absurd (by decide +kernel) h) (fun _ => ?_)
  refine lv_iconst (v := (-1)) hx hb dX11_wave_8 (by decide) ?_
  exact q_iret C hr hlocks hK hP hD hS (Nat.le_of_ble_eq_true rfl) (Nat.le_of_ble_eq_true rfl) dX11_wave_9 (rfl)

set_option maxHeartbeats 4000000 in
set_option maxRecDepth 100000 in
theorem c_odds (l : Launch) (dC : Nat → ClassId) (dI : Nat → Nat → Nat) (cB cI cJ cZ cS : ClassId) (h : Nat) (a : Nat → Nat) (v : Nat → Int32) (f : Nat → Nat → Int32) (g : Nat → Nat → Int64) (hv18 : v 18 = 0) (hf20_0 : f 20 0 = 0) (x1 : Int32) (x2 : Int32) : CI l yX11_odds wsX11_odds ({ frames := 2, cells := 0, slots := 0, locals := 43 }) (dC, dI) (tysA cB cI cJ cZ cS) (mw cB cI cJ cZ h a v f g) [.ref h, .int x1, .int x2] (fun r _ => r = (-1)) := by
  refine open_I (cc := cX11_odds) (maxL := 3) (ret := (some .int)) (by decide) rfl (Nat.le_of_ble_eq_true rfl) ?_
  intro p e s m below meth c A ls E
  obtain ⟨C, hr, hlocks, hnm, hA, hP, hK, hD, hN, hl⟩ := E
  obtain ⟨hx, hb, hml, hown, hts⟩ := id C
  have hS : va_S A s.heap s.heap [] := va_S.rf
  have hl : lv_has ls 3 [(0, .ref h), (1, .int x1), (2, .int x2)] := hl
  refine lv_aload_n hx hb dX11_odds_0 rfl (lv_at hl 0 rfl) ?_
  refine lv_iload_n hx hb dX11_odds_1 rfl (lv_at hl 1 rfl) ?_
  refine q_goiF (va_runV (As := [.int x1]) (rest := []) C (c_isWave l dC dI cB cI cJ cZ cS h a v f g hv18 hf20_0 x1 _) (cwV 1 hts gX11_odds_X11_isWave rfl rfl rfl (by decide +kernel) ⟨Nat.le_of_ble_eq_true rfl, Nat.le_of_ble_eq_true rfl⟩) (q_preV hK hP (ci := 11) (q0 := 0) rfl rfl rfl (q_preF hN hK hP hD)) rfl rfl hl.1 rfl (lv_room (Nat.le_of_ble_eq_true rfl)) dX11_odds_2 ⟨Nat.le_of_ble_eq_true rfl, Nat.le_of_ble_eq_true rfl⟩) hD hS hA (fun r w1 H locs hw hP hD hS => ?_)
  obtain ⟨rfl, rfl⟩ := hw
  refine lv_if_eq (tgt := 24) hx hb dX11_odds_5 (by decide) (fun _ => ?_) (fun h => absurd (by decide +kernel) h)
  refine lv_iconst (v := (-1)) hx hb dX11_odds_24 (by decide) ?_
  exact q_iret C hr hlocks hK hP hD hS (Nat.le_of_ble_eq_true rfl) (Nat.le_of_ble_eq_true rfl) dX11_odds_25 (rfl)

set_option maxHeartbeats 4000000 in
set_option maxRecDepth 100000 in
theorem c_party (l : Launch) (dC : Nat → ClassId) (dI : Nat → Nat → Nat) (cB cI cJ cZ cS : ClassId) (h : Nat) (a : Nat → Nat) (v : Nat → Int32) (f : Nat → Nat → Int32) (g : Nat → Nat → Int64) (hv18 : v 18 = 0) (hf23_0 : f 23 0 = 0) (x1 : Int32) (x2 : Int32) : CI l yX11_party wsX11_party ({ frames := 2, cells := 0, slots := 0, locals := 43 }) (dC, dI) (tysA cB cI cJ cZ cS) (mw cB cI cJ cZ h a v f g) [.ref h, .int x1, .int x2] (fun r _ => r = (-1)) := by
  refine open_I (cc := cX11_party) (maxL := 3) (ret := (some .int)) (by decide) rfl (Nat.le_of_ble_eq_true rfl) ?_
  intro p e s m below meth c A ls E
  obtain ⟨C, hr, hlocks, hnm, hA, hP, hK, hD, hN, hl⟩ := E
  obtain ⟨hx, hb, hml, hown, hts⟩ := id C
  have hS : va_S A s.heap s.heap [] := va_S.rf
  have hl : lv_has ls 3 [(0, .ref h), (1, .int x1), (2, .int x2)] := hl
  refine lv_aload_n hx hb dX11_party_0 rfl (lv_at hl 0 rfl) ?_
  refine lv_iload_n hx hb dX11_party_1 rfl (lv_at hl 1 rfl) ?_
  refine q_goiF (va_runV (As := [.int x1]) (rest := []) C (c_isParty l dC dI cB cI cJ cZ cS h a v f g hv18 hf23_0 x1 _) (cwV 1 hts gX11_party_X11_isParty rfl rfl rfl (by decide +kernel) ⟨Nat.le_of_ble_eq_true rfl, Nat.le_of_ble_eq_true rfl⟩) (q_preV hK hP (ci := 11) (q0 := 0) rfl rfl rfl (q_preF hN hK hP hD)) rfl rfl hl.1 rfl (lv_room (Nat.le_of_ble_eq_true rfl)) dX11_party_2 ⟨Nat.le_of_ble_eq_true rfl, Nat.le_of_ble_eq_true rfl⟩) hD hS hA (fun r w1 H locs hw hP hD hS => ?_)
  obtain ⟨rfl, rfl⟩ := hw
  refine lv_if_ne (tgt := 10) hx hb dX11_party_5 (by decide) (fun h => absurd (by decide +kernel) h) (fun _ => ?_)
  refine lv_iconst (v := (-1)) hx hb dX11_party_8 (by decide) ?_
  exact q_iret C hr hlocks hK hP hD hS (Nat.le_of_ble_eq_true rfl) (Nat.le_of_ble_eq_true rfl) dX11_party_9 (rfl)

set_option maxHeartbeats 4000000 in
set_option maxRecDepth 100000 in
theorem c_needs (l : Launch) (dC : Nat → ClassId) (dI : Nat → Nat → Nat) (cB cI cJ cZ cS : ClassId) (h : Nat) (a : Nat → Nat) (v : Nat → Int32) (f : Nat → Nat → Int32) (g : Nat → Nat → Int64) (hv18 : v 18 = 0) (hf23_0 : f 23 0 = 0) (x1 : Int32) (x2 : Int32) (x3 : Int32) : CI l yX11_needs wsX11_needs ({ frames := 2, cells := 0, slots := 0, locals := 43 }) (dC, dI) (tysA cB cI cJ cZ cS) (mw cB cI cJ cZ h a v f g) [.ref h, .int x1, .int x2, .int x3] (fun r _ => r = (-1)) := by
  refine open_I (cc := cX11_needs) (maxL := 4) (ret := (some .int)) (by decide) rfl (Nat.le_of_ble_eq_true rfl) ?_
  intro p e s m below meth c A ls E
  obtain ⟨C, hr, hlocks, hnm, hA, hP, hK, hD, hN, hl⟩ := E
  obtain ⟨hx, hb, hml, hown, hts⟩ := id C
  have hS : va_S A s.heap s.heap [] := va_S.rf
  have hl : lv_has ls 4 [(0, .ref h), (1, .int x1), (2, .int x2), (3, .int x3)] := hl
  refine lv_aload_n hx hb dX11_needs_0 rfl (lv_at hl 0 rfl) ?_
  refine lv_iload_n hx hb dX11_needs_1 rfl (lv_at hl 1 rfl) ?_
  refine q_goiF (va_runV (As := [.int x1]) (rest := []) C (c_isParty l dC dI cB cI cJ cZ cS h a v f g hv18 hf23_0 x1 _) (cwV 1 hts gX11_needs_X11_isParty rfl rfl rfl (by decide +kernel) ⟨Nat.le_of_ble_eq_true rfl, Nat.le_of_ble_eq_true rfl⟩) (q_preV hK hP (ci := 11) (q0 := 0) rfl rfl rfl (q_preF hN hK hP hD)) rfl rfl hl.1 rfl (lv_room (Nat.le_of_ble_eq_true rfl)) dX11_needs_2 ⟨Nat.le_of_ble_eq_true rfl, Nat.le_of_ble_eq_true rfl⟩) hD hS hA (fun r w1 H locs hw hP hD hS => ?_)
  obtain ⟨rfl, rfl⟩ := hw
  refine lv_if_eq (tgt := 23) hx hb dX11_needs_5 (by decide) (fun _ => ?_) (fun h => absurd (by decide +kernel) h)
  refine lv_iconst (v := (-1)) hx hb dX11_needs_23 (by decide) ?_
  exact q_iret C hr hlocks hK hP hD hS (Nat.le_of_ble_eq_true rfl) (Nat.le_of_ble_eq_true rfl) dX11_needs_24 (rfl)

set_option maxHeartbeats 4000000 in
set_option maxRecDepth 100000 in
theorem c_go (l : Launch) (dC : Nat → ClassId) (dI : Nat → Nat → Nat) (cB cI cJ cZ cS : ClassId) (h : Nat) (a : Nat → Nat) (v : Nat → Int32) (f : Nat → Nat → Int32) (g : Nat → Nat → Int64) (hv18 : v 18 = 0) (hf23_0 : f 23 0 = 0) (x1 : Int32) (x2 : Int32) : CI l yX11_go wsX11_go ({ frames := 3, cells := 0, slots := 0, locals := 64 }) (dC, dI) (tysA cB cI cJ cZ cS) (mw cB cI cJ cZ h a v f g) [.ref h, .int x1, .int x2] (fun r _ => r = (-1)) := by
  refine open_I (cc := cX11_go) (maxL := 4) (ret := (some .int)) (by decide) rfl (Nat.le_of_ble_eq_true rfl) ?_
  intro p e s m below meth c A ls E
  obtain ⟨C, hr, hlocks, hnm, hA, hP, hK, hD, hN, hl⟩ := E
  obtain ⟨hx, hb, hml, hown, hts⟩ := id C
  have hS : va_S A s.heap s.heap [] := va_S.rf
  have hl : lv_has ls 4 [(0, .ref h), (1, .int x1), (2, .int x2)] := hl
  refine lv_aload_n hx hb dX11_go_0 rfl (lv_at hl 0 rfl) ?_
  refine lv_iload_n hx hb dX11_go_1 rfl (lv_at hl 1 rfl) ?_
  refine q_goiF (va_runV (As := [.int x1]) (rest := []) C (c_isHere l dC dI cB cI cJ cZ cS h a v f g hv18 hf23_0 x1 _) (cwV 1 hts gX11_go_X11_isHere rfl rfl rfl (by decide +kernel) ⟨Nat.le_of_ble_eq_true rfl, Nat.le_of_ble_eq_true rfl⟩) (q_preV hK hP (ci := 11) (q0 := 0) rfl rfl rfl (q_preF hN hK hP hD)) rfl rfl hl.1 rfl (lv_room (Nat.le_of_ble_eq_true rfl)) dX11_go_2 ⟨Nat.le_of_ble_eq_true rfl, Nat.le_of_ble_eq_true rfl⟩) hD hS hA (fun r w1 H locs hw hP hD hS => ?_)
  obtain ⟨rfl, rfl⟩ := hw
  refine lv_if_eq (tgt := 28) hx hb dX11_go_5 (by decide) (fun _ => ?_) (fun h => absurd (by decide +kernel) h)
  refine lv_iconst (v := (-1)) hx hb dX11_go_28 (by decide) ?_
  exact q_iret C hr hlocks hK hP hD hS (Nat.le_of_ble_eq_true rfl) (Nat.le_of_ble_eq_true rfl) dX11_go_29 (rfl)

set_option maxHeartbeats 4000000 in
set_option maxRecDepth 100000 in
theorem c_buoy (l : Launch) (dC : Nat → ClassId) (dI : Nat → Nat → Nat) (cB cI cJ cZ cS : ClassId) (h : Nat) (a : Nat → Nat) (v : Nat → Int32) (f : Nat → Nat → Int32) (g : Nat → Nat → Int64) (hv18 : v 18 = 0) (hf20_0 : f 20 0 = 0) (x1 : Int32) (x2 : Int32) (x3 : Int32) : CI l yX11_buoy wsX11_buoy ({ frames := 2, cells := 0, slots := 0, locals := 43 }) (dC, dI) (tysA cB cI cJ cZ cS) (mw cB cI cJ cZ h a v f g) [.ref h, .int x1, .int x2, .int x3] (fun r _ => r = 0) := by
  refine open_I (cc := cX11_buoy) (maxL := 4) (ret := (some .boolean)) (by decide) rfl (Nat.le_of_ble_eq_true rfl) ?_
  intro p e s m below meth c A ls E
  obtain ⟨C, hr, hlocks, hnm, hA, hP, hK, hD, hN, hl⟩ := E
  obtain ⟨hx, hb, hml, hown, hts⟩ := id C
  have hS : va_S A s.heap s.heap [] := va_S.rf
  have hl : lv_has ls 4 [(0, .ref h), (1, .int x1), (2, .int x2), (3, .int x3)] := hl
  refine lv_aload_n hx hb dX11_buoy_0 rfl (lv_at hl 0 rfl) ?_
  refine lv_iload_n hx hb dX11_buoy_1 rfl (lv_at hl 1 rfl) ?_
  refine q_goiF (va_runV (As := [.int x1]) (rest := []) C (c_isWave l dC dI cB cI cJ cZ cS h a v f g hv18 hf20_0 x1 _) (cwV 1 hts gX11_buoy_X11_isWave rfl rfl rfl (by decide +kernel) ⟨Nat.le_of_ble_eq_true rfl, Nat.le_of_ble_eq_true rfl⟩) (q_preV hK hP (ci := 11) (q0 := 0) rfl rfl rfl (q_preF hN hK hP hD)) rfl rfl hl.1 rfl (lv_room (Nat.le_of_ble_eq_true rfl)) dX11_buoy_2 ⟨Nat.le_of_ble_eq_true rfl, Nat.le_of_ble_eq_true rfl⟩) hD hS hA (fun r w1 H locs hw hP hD hS => ?_)
  obtain ⟨rfl, rfl⟩ := hw
  refine lv_if_eq (tgt := 38) hx hb dX11_buoy_5 (by decide) (fun _ => ?_) (fun h => absurd (by decide +kernel) h)
  refine lv_iconst (v := 0) hx hb dX11_buoy_38 (by decide) ?_
  exact q_zret C hr hlocks (Or.inl rfl) hK hP hD hS (Nat.le_of_ble_eq_true rfl) (Nat.le_of_ble_eq_true rfl) dX11_buoy_39 (rfl)

set_option maxHeartbeats 4000000 in
set_option maxRecDepth 100000 in
theorem c_fetch (l : Launch) (dC : Nat → ClassId) (dI : Nat → Nat → Nat) (cB cI cJ cZ cS : ClassId) (h : Nat) (a : Nat → Nat) (v : Nat → Int32) (f : Nat → Nat → Int32) (g : Nat → Nat → Int64) (hv18 : v 18 = 0) (hf23_0 : f 23 0 = 0) (x1 : Int32) : CI l yX11_fetch wsX11_fetch ({ frames := 2, cells := 0, slots := 0, locals := 43 }) (dC, dI) (tysA cB cI cJ cZ cS) (mw cB cI cJ cZ h a v f g) [.ref h, .int x1] (fun r _ => r = 0) := by
  refine open_I (cc := cX11_fetch) (maxL := 2) (ret := (some .boolean)) (by decide) rfl (Nat.le_of_ble_eq_true rfl) ?_
  intro p e s m below meth c A ls E
  obtain ⟨C, hr, hlocks, hnm, hA, hP, hK, hD, hN, hl⟩ := E
  obtain ⟨hx, hb, hml, hown, hts⟩ := id C
  have hS : va_S A s.heap s.heap [] := va_S.rf
  have hl : lv_has ls 2 [(0, .ref h), (1, .int x1)] := hl
  refine lv_aload_n hx hb dX11_fetch_0 rfl (lv_at hl 0 rfl) ?_
  refine lv_iload_n hx hb dX11_fetch_1 rfl (lv_at hl 1 rfl) ?_
  refine q_goiF (va_runV (As := [.int x1]) (rest := []) C (c_isParty l dC dI cB cI cJ cZ cS h a v f g hv18 hf23_0 x1 _) (cwV 1 hts gX11_fetch_X11_isParty rfl rfl rfl (by decide +kernel) ⟨Nat.le_of_ble_eq_true rfl, Nat.le_of_ble_eq_true rfl⟩) (q_preV hK hP (ci := 11) (q0 := 0) rfl rfl rfl (q_preF hN hK hP hD)) rfl rfl hl.1 rfl (lv_room (Nat.le_of_ble_eq_true rfl)) dX11_fetch_2 ⟨Nat.le_of_ble_eq_true rfl, Nat.le_of_ble_eq_true rfl⟩) hD hS hA (fun r w1 H locs hw hP hD hS => ?_)
  obtain ⟨rfl, rfl⟩ := hw
  refine lv_if_eq (tgt := 20) hx hb dX11_fetch_5 (by decide) (fun _ => ?_) (fun h => absurd (by decide +kernel) h)
  refine lv_iconst (v := 0) hx hb dX11_fetch_20 (by decide) ?_
  exact q_zret C hr hlocks (Or.inl rfl) hK hP hD hS (Nat.le_of_ble_eq_true rfl) (Nat.le_of_ble_eq_true rfl) dX11_fetch_21 (rfl)

set_option maxHeartbeats 4000000 in
set_option maxRecDepth 100000 in
theorem c_undo (l : Launch) (dC : Nat → ClassId) (dI : Nat → Nat → Nat) (cB cI cJ cZ cS : ClassId) (h : Nat) (a : Nat → Nat) (v : Nat → Int32) (f : Nat → Nat → Int32) (g : Nat → Nat → Int64) (hv48 : v 48 = 0) : CI l yX11_undo wsX11_undo ({ frames := 0, cells := 0, slots := 0, locals := 0 }) (dC, dI) (tysA cB cI cJ cZ cS) (mw cB cI cJ cZ h a v f g) [.ref h] (fun r _ => r = 0) := by
  refine open_I (cc := cX11_undo) (maxL := 2) (ret := (some .boolean)) (by decide) rfl (Nat.le_of_ble_eq_true rfl) ?_
  intro p e s m below meth c A ls E
  obtain ⟨C, hr, hlocks, hnm, hA, hP, hK, hD, hN, hl⟩ := E
  obtain ⟨hx, hb, hml, hown, hts⟩ := id C
  have hS : va_S A s.heap s.heap [] := va_S.rf
  have hl : lv_has ls 2 [(0, .ref h)] := hl
  have inX11 : ∀ w ∈ u_ws RX11 TX11 58, w ∈ wsX11_undo := fun _ h => List.mem_cons_of_mem _ (List.mem_append_right _ h)
  have L230 : Cond.fieldLink RX11 230 "GuessFerryModel" "undos" "I" ∈ wsX11_undo := by decide +kernel
  refine lv_aload_n hx hb dX11_undo_0 rfl (lv_at hl 0 rfl) ?_
  refine q_get (v := .int (v 48)) C inX11 hK hP 0 rfl rfl 48 (by decide) rfl L230 rfl dX11_undo_1 ?_
  refine q_top (y := 0) (hv48) ?_
  refine lv_if_ne (tgt := 9) hx hb dX11_undo_4 (by decide) (fun h => absurd (by decide +kernel) h) (fun _ => ?_)
  refine lv_iconst (v := 0) hx hb dX11_undo_7 (by decide) ?_
  exact q_zret C hr hlocks (Or.inl rfl) hK hP hD hS (Nat.le_of_ble_eq_true rfl) (Nat.le_of_ble_eq_true rfl) dX11_undo_8 (rfl)

set_option maxHeartbeats 4000000 in
set_option maxRecDepth 100000 in
theorem c_cases (l : Launch) (dC : Nat → ClassId) (dI : Nat → Nat → Nat) (cB cI cJ cZ cS : ClassId) (h : Nat) (a : Nat → Nat) (v : Nat → Int32) (f : Nat → Nat → Int32) (g : Nat → Nat → Int64) (hv18 : v 18 = 0) (hf26_0 : f 26 0 = 0) (hv45 : v 45 = 0) (hf20_0 : f 20 0 = 0) (hrow : ∀ j, j < 29 → f 44 j = f 43 j) : CI l yX11_cases wsX11_cases ({ frames := 1, cells := 0, slots := 0, locals := 22 }) (dC, dI) (tysA cB cI cJ cZ cS) (mw cB cI cJ cZ h a v f g) [.ref h] (fun r _ => r = 1) := by
  refine open_I (cc := cX11_cases) (maxL := 1) (ret := (some .int)) (by decide) rfl (Nat.le_of_ble_eq_true rfl) ?_
  intro p e s m below meth c A ls E
  obtain ⟨C, hr, hlocks, hnm, hA, hP, hK, hD, hN, hl⟩ := E
  obtain ⟨hx, hb, hml, hown, hts⟩ := id C
  have hS : va_S A s.heap s.heap [] := va_S.rf
  have hl : lv_has ls 1 [(0, .ref h)] := hl
  refine lv_aload_n hx hb dX11_cases_0 rfl (lv_at hl 0 rfl) ?_
  refine q_govF (va_runV (As := []) (rest := []) C (c_copies l dC dI cB cI cJ cZ cS h a v f g hv18 hf26_0 hv45 (hrow) _) (cwV 0 hts gX11_cases_X11_copies rfl rfl rfl (by decide +kernel) ⟨Nat.le_of_ble_eq_true rfl, Nat.le_of_ble_eq_true rfl⟩) (q_preV hK hP (ci := 11) (q0 := 0) rfl rfl rfl (q_preF hN hK hP hD)) rfl rfl hl.1 rfl (lv_room (Nat.le_of_ble_eq_true rfl)) dX11_cases_1 ⟨Nat.le_of_ble_eq_true rfl, Nat.le_of_ble_eq_true rfl⟩) hD hS hA (fun w1 H locs hw hP hD hS => ?_)
  obtain rfl := hw
  refine lv_aload_n hx hb dX11_cases_4 rfl (lv_at hl 0 rfl) ?_
  refine q_goiF (va_runV (As := []) (rest := []) C (c_casesNow l dC dI cB cI cJ cZ cS h a v f g hv18 hf20_0 _) (cwV 0 hts gX11_cases_X11_casesNow rfl rfl rfl (by decide +kernel) ⟨Nat.le_of_ble_eq_true rfl, Nat.le_of_ble_eq_true rfl⟩) (q_preV hK hP (ci := 11) (q0 := 0) rfl rfl rfl (q_preF hN hK hP hD)) rfl rfl hl.1 rfl (lv_room (Nat.le_of_ble_eq_true rfl)) dX11_cases_5 ⟨Nat.le_of_ble_eq_true rfl, Nat.le_of_ble_eq_true rfl⟩) hD hS hA (fun r w1 H locs hw hP hD hS => ?_)
  obtain ⟨rfl, rfl⟩ := hw
  exact q_iret C hr hlocks hK hP hD hS (Nat.le_of_ble_eq_true rfl) (Nat.le_of_ble_eq_true rfl) dX11_cases_8 (rfl)

set_option maxHeartbeats 4000000 in
set_option maxRecDepth 100000 in
theorem c_all (l : Launch) (dC : Nat → ClassId) (dI : Nat → Nat → Nat) (cB cI cJ cZ cS : ClassId) (h : Nat) (a : Nat → Nat) (v : Nat → Int32) (f : Nat → Nat → Int32) (g : Nat → Nat → Int64) (hv18 : v 18 = 0) (hf26_0 : f 26 0 = 0) (hv45 : v 45 = 0) (hf20_0 : f 20 0 = 0) (hrow : ∀ j, j < 29 → f 44 j = f 43 j) : CI l yX11_all wsX11_all ({ frames := 1, cells := 0, slots := 0, locals := 21 }) (dC, dI) (tysA cB cI cJ cZ cS) (mw cB cI cJ cZ h a v f g) [.ref h] (fun r _ => r = 1) := by
  refine open_I (cc := cX11_all) (maxL := 3) (ret := (some .int)) (by decide) rfl (Nat.le_of_ble_eq_true rfl) ?_
  intro p e s m below meth c A ls E
  obtain ⟨C, hr, hlocks, hnm, hA, hP, hK, hD, hN, hl⟩ := E
  obtain ⟨hx, hb, hml, hown, hts⟩ := id C
  have hS : va_S A s.heap s.heap [] := va_S.rf
  have hl : lv_has ls 3 [(0, .ref h)] := hl
  have inX11 : ∀ w ∈ u_ws RX11 TX11 58, w ∈ wsX11_all := by decide +kernel
  have L215 : Cond.fieldLink RX11 215 "GuessFerryModel" "live" "I" ∈ wsX11_all := by decide +kernel
  have L40 : Cond.fieldLink RX11 40 "GuessFerryModel" "waves" "[I" ∈ wsX11_all := by decide +kernel
  refine lv_aload_n hx hb dX11_all_0 rfl (lv_at hl 0 rfl) ?_
  refine q_govF (va_runV (As := []) (rest := []) C (c_copies l dC dI cB cI cJ cZ cS h a v f g hv18 hf26_0 hv45 (hrow) _) (cwV 0 hts gX11_all_X11_copies rfl rfl rfl (by decide +kernel) ⟨Nat.le_of_ble_eq_true rfl, Nat.le_of_ble_eq_true rfl⟩) (q_preV hK hP (ci := 11) (q0 := 0) rfl rfl rfl (q_preF hN hK hP hD)) rfl rfl hl.1 rfl (lv_room (Nat.le_of_ble_eq_true rfl)) dX11_all_1 ⟨Nat.le_of_ble_eq_true rfl, Nat.le_of_ble_eq_true rfl⟩) hD hS hA (fun w1 H locs hw hP hD hS => ?_)
  obtain rfl := hw
  refine lv_iconst (v := 1) hx hb dX11_all_4 (by decide) ?_
  refine lv_istore_n (lv' := [(1, .int 1), (0, .ref h)]) hx hb dX11_all_5 rfl hl (by decide) rfl (fun ls hl => ?_)
  refine lv_iconst (v := 0) hx hb dX11_all_6 (by decide) ?_
  refine lv_istore_n (lv' := [(2, .int 0), (1, .int 1), (0, .ref h)]) hx hb dX11_all_7 rfl hl (by decide) rfl (fun ls hl => ?_)
  refine lv_iload_n hx hb dX11_all_8 rfl (lv_at hl 0 rfl) ?_
  refine lv_aload_n hx hb dX11_all_9 rfl (lv_at hl 2 rfl) ?_
  refine q_get (v := .ref (a 20)) C inX11 hK hP 0 rfl rfl 20 (by decide) rfl L40 rfl dX11_all_10 ?_
  refine lv_aload_n hx hb dX11_all_13 rfl (lv_at hl 2 rfl) ?_
  refine q_get (v := .int (v 18)) C inX11 hK hP 0 rfl rfl 18 (by decide) rfl L215 rfl dX11_all_14 ?_
  refine q_top (y := 0) (hv18) ?_
  refine q_iald (x := 0) C hK hP 8 1 rfl rfl (vp_lit (by decide +kernel)) dX11_all_17 (hf20_0) ?_
  refine lv_icmp_ge (tgt := 35) hx hb dX11_all_18 (by decide) (fun _ => ?_) (fun h => absurd (by decide +kernel) h)
  refine lv_iload_n hx hb dX11_all_35 rfl (lv_at hl 1 rfl) ?_
  exact q_iret C hr hlocks hK hP hD hS (Nat.le_of_ble_eq_true rfl) (Nat.le_of_ble_eq_true rfl) dX11_all_36 (rfl)

set_option maxHeartbeats 4000000 in
set_option maxRecDepth 100000 in
theorem c_likeliest (l : Launch) (dC : Nat → ClassId) (dI : Nat → Nat → Nat) (cB cI cJ cZ cS : ClassId) (h : Nat) (a : Nat → Nat) (v : Nat → Int32) (f : Nat → Nat → Int32) (g : Nat → Nat → Int64) (hv18 : v 18 = 0) (hf26_0 : f 26 0 = 0) (hv45 : v 45 = 0) (hf20_0 : f 20 0 = 0) (hrow : ∀ j, j < 29 → f 44 j = f 43 j) : CI l yX11_likeliest wsX11_likeliest ({ frames := 1, cells := 0, slots := 0, locals := 25 }) (dC, dI) (tysA cB cI cJ cZ cS) (mw cB cI cJ cZ h a v f g) [.ref h] (fun r _ => r = 0) := by
  refine open_I (cc := cX11_likeliest) (maxL := 1) (ret := (some .int)) (by decide) rfl (Nat.le_of_ble_eq_true rfl) ?_
  intro p e s m below meth c A ls E
  obtain ⟨C, hr, hlocks, hnm, hA, hP, hK, hD, hN, hl⟩ := E
  obtain ⟨hx, hb, hml, hown, hts⟩ := id C
  have hS : va_S A s.heap s.heap [] := va_S.rf
  have hl : lv_has ls 1 [(0, .ref h)] := hl
  refine lv_aload_n hx hb dX11_likeliest_0 rfl (lv_at hl 0 rfl) ?_
  refine q_govF (va_runV (As := []) (rest := []) C (c_copies l dC dI cB cI cJ cZ cS h a v f g hv18 hf26_0 hv45 (hrow) _) (cwV 0 hts gX11_likeliest_X11_copies rfl rfl rfl (by decide +kernel) ⟨Nat.le_of_ble_eq_true rfl, Nat.le_of_ble_eq_true rfl⟩) (q_preV hK hP (ci := 11) (q0 := 0) rfl rfl rfl (q_preF hN hK hP hD)) rfl rfl hl.1 rfl (lv_room (Nat.le_of_ble_eq_true rfl)) dX11_likeliest_1 ⟨Nat.le_of_ble_eq_true rfl, Nat.le_of_ble_eq_true rfl⟩) hD hS hA (fun w1 H locs hw hP hD hS => ?_)
  obtain rfl := hw
  refine lv_aload_n hx hb dX11_likeliest_4 rfl (lv_at hl 0 rfl) ?_
  refine lv_iconst (v := (-1)) hx hb dX11_likeliest_5 (by decide) ?_
  refine q_goiF (va_runV (As := [.int (-1)]) (rest := []) C (c_bestFor l dC dI cB cI cJ cZ cS h a v f g hv18 hf20_0 _) (cwV 1 hts gX11_likeliest_X11_bestFor rfl rfl rfl (by decide +kernel) ⟨Nat.le_of_ble_eq_true rfl, Nat.le_of_ble_eq_true rfl⟩) (q_preV hK hP (ci := 11) (q0 := 0) rfl rfl rfl (q_preF hN hK hP hD)) rfl rfl hl.1 rfl (lv_room (Nat.le_of_ble_eq_true rfl)) dX11_likeliest_6 ⟨Nat.le_of_ble_eq_true rfl, Nat.le_of_ble_eq_true rfl⟩) hD hS hA (fun r w1 H locs hw hP hD hS => ?_)
  obtain ⟨rfl, rfl⟩ := hw
  exact q_iret C hr hlocks hK hP hD hS (Nat.le_of_ble_eq_true rfl) (Nat.le_of_ble_eq_true rfl) dX11_likeliest_9 (rfl)

set_option maxHeartbeats 4000000 in
set_option maxRecDepth 100000 in
theorem c_bears (l : Launch) (dC : Nat → ClassId) (dI : Nat → Nat → Nat) (cB cI cJ cZ cS : ClassId) (h : Nat) (a : Nat → Nat) (v : Nat → Int32) (f : Nat → Nat → Int32) (g : Nat → Nat → Int64) (hv18 : v 18 = 0) (hf23_0 : f 23 0 = 0) (x1 : Int32) (x2 : Int32) : CI l yX11_bears wsX11_bears ({ frames := 2, cells := 0, slots := 0, locals := 43 }) (dC, dI) (tysA cB cI cJ cZ cS) (mw cB cI cJ cZ h a v f g) [.ref h, .int x1, .int x2] (fun r _ => r = (-1)) := by
  refine open_I (cc := cX11_bears) (maxL := 3) (ret := (some .int)) (by decide) rfl (Nat.le_of_ble_eq_true rfl) ?_
  intro p e s m below meth c A ls E
  obtain ⟨C, hr, hlocks, hnm, hA, hP, hK, hD, hN, hl⟩ := E
  obtain ⟨hx, hb, hml, hown, hts⟩ := id C
  have hS : va_S A s.heap s.heap [] := va_S.rf
  have hl : lv_has ls 3 [(0, .ref h), (1, .int x1), (2, .int x2)] := hl
  refine lv_aload_n hx hb dX11_bears_0 rfl (lv_at hl 0 rfl) ?_
  refine lv_iload_n hx hb dX11_bears_1 rfl (lv_at hl 1 rfl) ?_
  refine q_goiF (va_runV (As := [.int x1]) (rest := []) C (c_isParty l dC dI cB cI cJ cZ cS h a v f g hv18 hf23_0 x1 _) (cwV 1 hts gX11_bears_X11_isParty rfl rfl rfl (by decide +kernel) ⟨Nat.le_of_ble_eq_true rfl, Nat.le_of_ble_eq_true rfl⟩) (q_preV hK hP (ci := 11) (q0 := 0) rfl rfl rfl (q_preF hN hK hP hD)) rfl rfl hl.1 rfl (lv_room (Nat.le_of_ble_eq_true rfl)) dX11_bears_2 ⟨Nat.le_of_ble_eq_true rfl, Nat.le_of_ble_eq_true rfl⟩) hD hS hA (fun r w1 H locs hw hP hD hS => ?_)
  obtain ⟨rfl, rfl⟩ := hw
  refine lv_if_eq (tgt := 16) hx hb dX11_bears_5 (by decide) (fun _ => ?_) (fun h => absurd (by decide +kernel) h)
  refine lv_iconst (v := (-1)) hx hb dX11_bears_16 (by decide) ?_
  exact q_iret C hr hlocks hK hP hD hS (Nat.le_of_ble_eq_true rfl) (Nat.le_of_ble_eq_true rfl) dX11_bears_17 (rfl)

set_option maxHeartbeats 4000000 in
set_option maxRecDepth 100000 in
theorem c_safest (l : Launch) (dC : Nat → ClassId) (dI : Nat → Nat → Nat) (cB cI cJ cZ cS : ClassId) (h : Nat) (a : Nat → Nat) (v : Nat → Int32) (f : Nat → Nat → Int32) (g : Nat → Nat → Int64) (hv18 : v 18 = 0) (hf23_0 : f 23 0 = 0) (x1 : Int32) : CI l yX11_safest wsX11_safest ({ frames := 2, cells := 0, slots := 0, locals := 43 }) (dC, dI) (tysA cB cI cJ cZ cS) (mw cB cI cJ cZ h a v f g) [.ref h, .int x1] (fun r _ => r = (-1)) := by
  refine open_I (cc := cX11_safest) (maxL := 2) (ret := (some .int)) (by decide) rfl (Nat.le_of_ble_eq_true rfl) ?_
  intro p e s m below meth c A ls E
  obtain ⟨C, hr, hlocks, hnm, hA, hP, hK, hD, hN, hl⟩ := E
  obtain ⟨hx, hb, hml, hown, hts⟩ := id C
  have hS : va_S A s.heap s.heap [] := va_S.rf
  have hl : lv_has ls 2 [(0, .ref h), (1, .int x1)] := hl
  refine lv_aload_n hx hb dX11_safest_0 rfl (lv_at hl 0 rfl) ?_
  refine lv_iload_n hx hb dX11_safest_1 rfl (lv_at hl 1 rfl) ?_
  refine q_goiF (va_runV (As := [.int x1]) (rest := []) C (c_isParty l dC dI cB cI cJ cZ cS h a v f g hv18 hf23_0 x1 _) (cwV 1 hts gX11_safest_X11_isParty rfl rfl rfl (by decide +kernel) ⟨Nat.le_of_ble_eq_true rfl, Nat.le_of_ble_eq_true rfl⟩) (q_preV hK hP (ci := 11) (q0 := 0) rfl rfl rfl (q_preF hN hK hP hD)) rfl rfl hl.1 rfl (lv_room (Nat.le_of_ble_eq_true rfl)) dX11_safest_2 ⟨Nat.le_of_ble_eq_true rfl, Nat.le_of_ble_eq_true rfl⟩) hD hS hA (fun r w1 H locs hw hP hD hS => ?_)
  obtain ⟨rfl, rfl⟩ := hw
  refine lv_if_ne (tgt := 10) hx hb dX11_safest_5 (by decide) (fun h => absurd (by decide +kernel) h) (fun _ => ?_)
  refine lv_iconst (v := (-1)) hx hb dX11_safest_8 (by decide) ?_
  exact q_iret C hr hlocks hK hP hD hS (Nat.le_of_ble_eq_true rfl) (Nat.le_of_ble_eq_true rfl) dX11_safest_9 (rfl)
