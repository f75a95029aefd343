set_option maxRecDepth 20000 in
theorem ggX11_needs_X11_isParty : GoodIn wsX11_needs wsX11_isParty := goodIn_r _ [5, 6, 7, 8, 9, 4, 10, 76, 77, 78, 79, 80, 81, 82, 83, 84, 85, 86, 87, 88, 89, 90, 91, 92, 93, 94, 95, 96, 97, 98, 99, 100, 101, 102, 103, 104, 105, 106, 107, 108, 109, 110, 111, 112, 113, 114, 115, 116, 117, 118, 119, 120, 121, 122, 123, 124, 125, 126, 127, 128, 129, 130, 131, 132, 133] (by decide +kernel) (by decide +kernel)
set_option maxRecDepth 20000 in
theorem gX11_needs_X11_isParty : GoodIn wsX11_needs (wsV RX11 358 RX11 yX11_isParty wsX11_isParty) := goodIn_app (goodIn_of _ (by decide +kernel)) ggX11_needs_X11_isParty
set_option maxRecDepth 20000 in
theorem ggX11_needs_X11_isWave : GoodIn wsX11_needs wsX11_isWave := goodIn_r _ [14, 15, 7, 8, 9, 4, 10, 76, 77, 78, 79, 80, 81, 82, 83, 84, 85, 86, 87, 88, 89, 90, 91, 92, 93, 94, 95, 96, 97, 98, 99, 100, 101, 102, 103, 104, 105, 106, 107, 108, 109, 110, 111, 112, 113, 114, 115, 116, 117, 118, 119, 120, 121, 122, 123, 124, 125, 126, 127, 128, 129, 130, 131, 132, 133] (by decide +kernel) (by decide +kernel)
set_option maxRecDepth 20000 in
theorem gX11_needs_X11_isWave : GoodIn wsX11_needs (wsV RX11 349 RX11 yX11_isWave wsX11_isWave) := goodIn_app (goodIn_of _ (by decide +kernel)) ggX11_needs_X11_isWave
set_option maxRecDepth 20000 in
theorem ggX11_needs_X11_isThing : GoodIn wsX11_needs wsX11_isThing := goodIn_r _ [18, 8, 9, 4, 10] (by decide +kernel) (by decide +kernel)
set_option maxRecDepth 20000 in
theorem gX11_needs_X11_isThing : GoodIn wsX11_needs (va_wsS RX11 355 yX11_isThing wsX11_isThing) := goodIn_app (goodIn_of _ (by decide +kernel)) ggX11_needs_X11_isThing
set_option maxRecDepth 20000 in
theorem ggX11_needs_X11_copies : GoodIn wsX11_needs wsX11_copies := goodIn_r _ [22, 23, 24, 25, 7, 26, 76, 77, 78, 79, 80, 81, 82, 83, 84, 85, 86, 87, 88, 89, 90, 91, 92, 93, 94, 95, 96, 97, 98, 99, 100, 101, 102, 103, 104, 105, 106, 107, 108, 109, 110, 111, 112, 113, 114, 115, 116, 117, 118, 119, 120, 121, 122, 123, 124, 125, 126, 127, 128, 129, 130, 131, 132, 133] (by decide +kernel) (by decide +kernel)
set_option maxRecDepth 20000 in
theorem gX11_needs_X11_copies : GoodIn wsX11_needs (wsV RX11 352 RX11 yX11_copies wsX11_copies) := goodIn_app (goodIn_of _ (by decide +kernel)) ggX11_needs_X11_copies
set_option maxRecDepth 20000 in
theorem ggX11_needs_X11_needsOf : GoodIn wsX11_needs wsX11_needsOf := goodIn_r _ [30, 31, 32, 33, 34, 4, 35, 23, 36, 7, 37, 38, 39, 40, 41, 42, 43, 44, 45, 46, 47, 48, 49, 50, 51, 52, 53, 54, 55, 56, 57, 58, 59, 60, 61, 62, 63, 64, 65, 66, 67, 68, 69, 70, 71, 72, 73, 74, 75, 76, 77, 78, 79, 80, 81, 82, 83, 84, 85, 86, 87, 88, 89, 90, 91, 92, 93, 94, 95, 96, 97, 98, 99, 100, 101, 102, 103, 104, 105, 106, 107, 108, 109, 110, 111, 112, 113, 114, 115, 116, 117, 118, 119, 120, 121, 122, 123, 124, 125, 126, 127, 128, 129, 130, 131, 132, 133] (by decide +kernel) (by decide +kernel)
set_option maxRecDepth 20000 in
theorem gX11_needs_X11_needsOf : GoodIn wsX11_needs (wsV RX11 327 RX11 yX11_needsOf wsX11_needsOf) := goodIn_app (goodIn_of _ (by decide +kernel)) ggX11_needs_X11_needsOf
theorem dX11_needs_0 : decode cX11_needs 0 = .ok (.aload_n 0, 1) := by decide +kernel
theorem dX11_needs_1 : decode cX11_needs 1 = .ok (.iload_n 1, 1) := by decide +kernel
theorem dX11_needs_2 : decode cX11_needs 2 = .ok (.invokevirtual 358, 3) := by decide +kernel
theorem dX11_needs_5 : decode cX11_needs 5 = .ok (.ifCond .eq 18, 3) := by decide +kernel
theorem dX11_needs_8 : decode cX11_needs 8 = .ok (.aload_n 0, 1) := by decide +kernel
theorem dX11_needs_9 : decode cX11_needs 9 = .ok (.iload_n 2, 1) := by decide +kernel
theorem dX11_needs_10 : decode cX11_needs 10 = .ok (.invokevirtual 349, 3) := by decide +kernel
theorem dX11_needs_13 : decode cX11_needs 13 = .ok (.ifCond .eq 10, 3) := by decide +kernel
theorem dX11_needs_16 : decode cX11_needs 16 = .ok (.iload_n 3, 1) := by decide +kernel
theorem dX11_needs_17 : decode cX11_needs 17 = .ok (.invokestatic 355, 3) := by decide +kernel
theorem dX11_needs_20 : decode cX11_needs 20 = .ok (.ifCond .ne 5, 3) := by decide +kernel
theorem dX11_needs_23 : decode cX11_needs 23 = .ok (.iconst (-1), 1) := by decide +kernel
theorem dX11_needs_24 : decode cX11_needs 24 = .ok (.ireturn, 1) := by decide +kernel
theorem dX11_needs_25 : decode cX11_needs 25 = .ok (.aload_n 0, 1) := by decide +kernel
theorem dX11_needs_26 : decode cX11_needs 26 = .ok (.invokevirtual 352, 3) := by decide +kernel
theorem dX11_needs_29 : decode cX11_needs 29 = .ok (.aload_n 0, 1) := by decide +kernel
theorem dX11_needs_30 : decode cX11_needs 30 = .ok (.iload_n 1, 1) := by decide +kernel
theorem dX11_needs_31 : decode cX11_needs 31 = .ok (.iload_n 2, 1) := by decide +kernel
theorem dX11_needs_32 : decode cX11_needs 32 = .ok (.iload_n 3, 1) := by decide +kernel
theorem dX11_needs_33 : decode cX11_needs 33 = .ok (.invokevirtual 327, 3) := by decide +kernel
theorem dX11_needs_36 : decode cX11_needs 36 = .ok (.ireturn, 1) := by decide +kernel
set_option maxRecDepth 20000 in
theorem ggX11_records_X11_keepsRow : GoodIn wsX11_records wsX11_keepsRow := goodIn_r _ [8, 3, 9, 10, 11, 12, 13, 14, 15, 16, 17, 18, 19, 20, 21, 22, 23, 24, 25, 26, 27, 28, 29, 30, 31, 32, 33, 34, 35, 36, 37, 38, 39, 40, 41, 42, 43, 44, 45, 46, 47, 48, 49, 50, 51, 52, 53, 54, 55, 56, 57, 58, 59, 60, 61, 62, 63, 64, 65, 66, 67] (by decide +kernel) (by decide +kernel)
set_option maxRecDepth 20000 in
theorem gX11_records_X11_keepsRow : GoodIn wsX11_records (wsV RX11 145 RX11 yX11_keepsRow wsX11_keepsRow) := goodIn_app (goodIn_of _ (by decide +kernel)) ggX11_records_X11_keepsRow
theorem dX11_records_0 : decode cX11_records 0 = .ok (.aload_n 0, 1) := by decide +kernel
theorem dX11_records_1 : decode cX11_records 1 = .ok (.getfield 230, 3) := by decide +kernel
theorem dX11_records_4 : decode cX11_records 4 = .ok (.bipush 40, 2) := by decide +kernel
theorem dX11_records_6 : decode cX11_records 6 = .ok (.if_icmp .ne 43, 3) := by decide +kernel
theorem dX11_records_9 : decode cX11_records 9 = .ok (.iconst 0, 1) := by decide +kernel
theorem dX11_records_10 : decode cX11_records 10 = .ok (.istore_n 1, 1) := by decide +kernel
theorem dX11_records_11 : decode cX11_records 11 = .ok (.iload_n 1, 1) := by decide +kernel
theorem dX11_records_12 : decode cX11_records 12 = .ok (.sipush 1131, 3) := by decide +kernel
theorem dX11_records_15 : decode cX11_records 15 = .ok (.if_icmp .ge 24, 3) := by decide +kernel
theorem dX11_records_18 : decode cX11_records 18 = .ok (.aload_n 0, 1) := by decide +kernel
theorem dX11_records_19 : decode cX11_records 19 = .ok (.getfield 110, 3) := by decide +kernel
theorem dX11_records_22 : decode cX11_records 22 = .ok (.iload_n 1, 1) := by decide +kernel
theorem dX11_records_23 : decode cX11_records 23 = .ok (.aload_n 0, 1) := by decide +kernel
theorem dX11_records_24 : decode cX11_records 24 = .ok (.getfield 110, 3) := by decide +kernel
theorem dX11_records_27 : decode cX11_records 27 = .ok (.iload_n 1, 1) := by decide +kernel
theorem dX11_records_28 : decode cX11_records 28 = .ok (.bipush 29, 2) := by decide +kernel
theorem dX11_records_30 : decode cX11_records 30 = .ok (.iadd, 1) := by decide +kernel
theorem dX11_records_31 : decode cX11_records 31 = .ok (.iaload, 1) := by decide +kernel
theorem dX11_records_32 : decode cX11_records 32 = .ok (.iastore, 1) := by decide +kernel
theorem dX11_records_33 : decode cX11_records 33 = .ok (.iinc 1 1, 3) := by decide +kernel
theorem dX11_records_36 : decode cX11_records 36 = .ok (.goto (-25), 3) := by decide +kernel
theorem dX11_records_39 : decode cX11_records 39 = .ok (.aload_n 0, 1) := by decide +kernel
theorem dX11_records_40 : decode cX11_records 40 = .ok (.dup, 1) := by decide +kernel
theorem dX11_records_41 : decode cX11_records 41 = .ok (.getfield 230, 3) := by decide +kernel
theorem dX11_records_44 : decode cX11_records 44 = .ok (.iconst 1, 1) := by decide +kernel
theorem dX11_records_45 : decode cX11_records 45 = .ok (.isub, 1) := by decide +kernel
theorem dX11_records_46 : decode cX11_records 46 = .ok (.putfield 230, 3) := by decide +kernel
theorem dX11_records_49 : decode cX11_records 49 = .ok (.iconst 0, 1) := by decide +kernel
theorem dX11_records_50 : decode cX11_records 50 = .ok (.istore_n 1, 1) := by decide +kernel
theorem dX11_records_51 : decode cX11_records 51 = .ok (.iload_n 1, 1) := by decide +kernel
theorem dX11_records_52 : decode cX11_records 52 = .ok (.bipush 29, 2) := by decide +kernel
theorem dX11_records_54 : decode cX11_records 54 = .ok (.if_icmp .ge 29, 3) := by decide +kernel
theorem dX11_records_57 : decode cX11_records 57 = .ok (.aload_n 0, 1) := by decide +kernel
theorem dX11_records_58 : decode cX11_records 58 = .ok (.getfield 110, 3) := by decide +kernel
theorem dX11_records_61 : decode cX11_records 61 = .ok (.bipush 29, 2) := by decide +kernel
theorem dX11_records_63 : decode cX11_records 63 = .ok (.aload_n 0, 1) := by decide +kernel
theorem dX11_records_64 : decode cX11_records 64 = .ok (.getfield 230, 3) := by decide +kernel
theorem dX11_records_67 : decode cX11_records 67 = .ok (.imul, 1) := by decide +kernel
theorem dX11_records_68 : decode cX11_records 68 = .ok (.iload_n 1, 1) := by decide +kernel
theorem dX11_records_69 : decode cX11_records 69 = .ok (.iadd, 1) := by decide +kernel
theorem dX11_records_70 : decode cX11_records 70 = .ok (.aload_n 0, 1) := by decide +kernel
theorem dX11_records_71 : decode cX11_records 71 = .ok (.getfield 98, 3) := by decide +kernel
theorem dX11_records_74 : decode cX11_records 74 = .ok (.iload_n 1, 1) := by decide +kernel
theorem dX11_records_75 : decode cX11_records 75 = .ok (.iaload, 1) := by decide +kernel
theorem dX11_records_76 : decode cX11_records 76 = .ok (.iastore, 1) := by decide +kernel
theorem dX11_records_77 : decode cX11_records 77 = .ok (.iinc 1 1, 3) := by decide +kernel
theorem dX11_records_80 : decode cX11_records 80 = .ok (.goto (-29), 3) := by decide +kernel
theorem dX11_records_83 : decode cX11_records 83 = .ok (.aload_n 0, 1) := by decide +kernel
theorem dX11_records_84 : decode cX11_records 84 = .ok (.dup, 1) := by decide +kernel
theorem dX11_records_85 : decode cX11_records 85 = .ok (.getfield 230, 3) := by decide +kernel
theorem dX11_records_88 : decode cX11_records 88 = .ok (.iconst 1, 1) := by decide +kernel
theorem dX11_records_89 : decode cX11_records 89 = .ok (.iadd, 1) := by decide +kernel
theorem dX11_records_90 : decode cX11_records 90 = .ok (.putfield 230, 3) := by decide +kernel
theorem dX11_records_93 : decode cX11_records 93 = .ok (.aload_n 0, 1) := by decide +kernel
theorem dX11_records_94 : decode cX11_records 94 = .ok (.invokevirtual 145, 3) := by decide +kernel
theorem dX11_records_97 : decode cX11_records 97 = .ok (.return_, 1) := by decide +kernel
set_option maxRecDepth 20000 in
theorem ggX11_isHere_X11_isParty : GoodIn wsX11_isHere wsX11_isParty := goodIn_r _ [6, 7, 8, 9, 10, 5, 11, 12, 13, 14, 15, 16, 17, 18, 19, 20, 21, 22, 23, 24, 25, 26, 27, 28, 29, 30, 31, 32, 33, 34, 35, 36, 37, 38, 39, 40, 41, 42, 43, 44, 45, 46, 47, 48, 49, 50, 51, 52, 53, 54, 55, 56, 57, 58, 59, 60, 61, 62, 63, 64, 65, 66, 67, 68, 69] (by decide +kernel) (by decide +kernel)
set_option maxRecDepth 20000 in
theorem gX11_isHere_X11_isParty : GoodIn wsX11_isHere (wsV RX11 358 RX11 yX11_isParty wsX11_isParty) := goodIn_app (goodIn_of _ (by decide +kernel)) ggX11_isHere_X11_isParty
theorem dX11_isHere_0 : decode cX11_isHere 0 = .ok (.aload_n 0, 1) := by decide +kernel
theorem dX11_isHere_1 : decode cX11_isHere 1 = .ok (.iload_n 1, 1) := by decide +kernel
theorem dX11_isHere_2 : decode cX11_isHere 2 = .ok (.invokevirtual 358, 3) := by decide +kernel
theorem dX11_isHere_5 : decode cX11_isHere 5 = .ok (.ifCond .eq 19, 3) := by decide +kernel
theorem dX11_isHere_8 : decode cX11_isHere 8 = .ok (.aload_n 0, 1) := by decide +kernel
theorem dX11_isHere_9 : decode cX11_isHere 9 = .ok (.getfield 98, 3) := by decide +kernel
theorem dX11_isHere_12 : decode cX11_isHere 12 = .ok (.bipush 15, 2) := by decide +kernel
theorem dX11_isHere_14 : decode cX11_isHere 14 = .ok (.iload_n 1, 1) := by decide +kernel
theorem dX11_isHere_15 : decode cX11_isHere 15 = .ok (.iadd, 1) := by decide +kernel
theorem dX11_isHere_16 : decode cX11_isHere 16 = .ok (.iaload, 1) := by decide +kernel
theorem dX11_isHere_17 : decode cX11_isHere 17 = .ok (.ifCond .ne 7, 3) := by decide +kernel
theorem dX11_isHere_20 : decode cX11_isHere 20 = .ok (.iconst 1, 1) := by decide +kernel
theorem dX11_isHere_21 : decode cX11_isHere 21 = .ok (.goto 4, 3) := by decide +kernel
theorem dX11_isHere_24 : decode cX11_isHere 24 = .ok (.iconst 0, 1) := by decide +kernel
theorem dX11_isHere_25 : decode cX11_isHere 25 = .ok (.ireturn, 1) := by decide +kernel
set_option maxRecDepth 20000 in
theorem ggX11_go_X11_isHere : GoodIn wsX11_go wsX11_isHere := goodIn_r _ [7, 8, 9, 10, 11, 6, 12, 13, 2, 14, 15, 16, 128, 129, 130, 131, 132, 133, 134, 135, 136, 137, 138, 139, 140, 141, 142, 143, 144, 145, 146, 147, 148, 149, 150, 151, 152, 153, 154, 155, 156, 157, 158, 159, 160, 161, 162, 163, 164, 165, 166, 167, 168, 169, 170, 171, 172, 173, 174, 175, 176, 177, 178, 179, 180, 181, 182, 183, 184, 185] (by decide +kernel) (by decide +kernel)
set_option maxRecDepth 20000 in
theorem gX11_go_X11_isHere : GoodIn wsX11_go (wsV RX11 364 RX11 yX11_isHere wsX11_isHere) := goodIn_app (goodIn_of _ (by decide +kernel)) ggX11_go_X11_isHere
set_option maxRecDepth 20000 in
theorem ggX11_go_X11_isGuess : GoodIn wsX11_go wsX11_isGuess := goodIn_r _ [20, 21, 22, 23, 6, 24, 25, 1, 2, 14, 15, 16, 128, 129, 130, 131, 132, 133, 134, 135, 136, 137, 138, 139, 140, 141, 142, 143, 144, 145, 146, 147, 148, 149, 150, 151, 152, 153, 154, 155, 156, 157, 158, 159, 160, 161, 162, 163, 164, 165, 166, 167, 168, 169, 170, 171, 172, 173, 174, 175, 176, 177, 178, 179, 180, 181, 182, 183, 184, 185] (by decide +kernel) (by decide +kernel)
set_option maxRecDepth 20000 in
theorem gX11_go_X11_isGuess : GoodIn wsX11_go (wsV RX11 367 RX11 yX11_isGuess wsX11_isGuess) := goodIn_app (goodIn_of _ (by decide +kernel)) ggX11_go_X11_isGuess
set_option maxRecDepth 20000 in
theorem ggX11_go_X11_copies : GoodIn wsX11_go wsX11_copies := goodIn_r _ [29, 30, 8, 31, 2, 32, 128, 129, 130, 131, 132, 133, 134, 135, 136, 137, 138, 139, 140, 141, 142, 143, 144, 145, 146, 147, 148, 149, 150, 151, 152, 153, 154, 155, 156, 157, 158, 159, 160, 161, 162, 163, 164, 165, 166, 167, 168, 169, 170, 171, 172, 173, 174, 175, 176, 177, 178, 179, 180, 181, 182, 183, 184, 185] (by decide +kernel) (by decide +kernel)
set_option maxRecDepth 20000 in
theorem gX11_go_X11_copies : GoodIn wsX11_go (wsV RX11 352 RX11 yX11_copies wsX11_copies) := goodIn_app (goodIn_of _ (by decide +kernel)) ggX11_go_X11_copies
set_option maxRecDepth 20000 in
theorem ggX11_go_X11_thereNumber : GoodIn wsX11_go wsX11_thereNumber := goodIn_r _ [36, 1, 2, 25, 37, 38, 39, 6, 40, 30, 41, 42, 43, 44, 45, 46, 47, 48, 49, 32, 50, 51, 52, 53, 128, 129, 130, 131, 132, 133, 134, 135, 136, 137, 138, 139, 140, 141, 142, 143, 144, 145, 146, 147, 148, 149, 150, 151, 152, 153, 154, 155, 156, 157, 158, 159, 160, 161, 162, 163, 164, 165, 166, 167, 168, 169, 170, 171, 172, 173, 174, 175, 176, 177, 178, 179, 180, 181, 182, 183, 184, 185] (by decide +kernel) (by decide +kernel)
set_option maxRecDepth 20000 in
theorem gX11_go_X11_thereNumber : GoodIn wsX11_go (wsV RX11 370 RX11 yX11_thereNumber wsX11_thereNumber) := goodIn_app (goodIn_of _ (by decide +kernel)) ggX11_go_X11_thereNumber
set_option maxRecDepth 20000 in
theorem ggX11_go_X11_goesBy : GoodIn wsX11_go wsX11_goesBy := goodIn_r _ [57, 30, 1, 2, 58, 59, 60, 6, 61, 62, 63, 64, 65, 25, 66, 67, 68, 69, 41, 42, 43, 44, 45, 70, 71, 72, 73, 74, 75, 76, 77, 78, 79, 80, 81, 82, 83, 84, 85, 86, 87, 88, 89, 90, 91, 92, 93, 94, 95, 96, 97, 98, 99, 100, 101, 102, 103, 104, 105, 106, 107, 108, 109, 110, 111, 112, 113, 114, 115, 116, 117, 128, 129, 130, 131, 132, 133, 134, 135, 136, 137, 138, 139, 140, 141, 142, 143, 144, 145, 146, 147, 148, 149, 150, 151, 152, 153, 154, 155, 156, 157, 158, 159, 160, 161, 162, 163, 164, 165, 166, 167, 168, 169, 170, 171, 172, 173, 174, 175, 176, 177, 178, 179, 180, 181, 182, 183, 184, 185] (by decide +kernel) (by decide +kernel)
set_option maxRecDepth 20000 in
theorem gX11_go_X11_goesBy : GoodIn wsX11_go (wsV RX11 373 RX11 yX11_goesBy wsX11_goesBy) := goodIn_app (goodIn_of _ (by decide +kernel)) ggX11_go_X11_goesBy
set_option maxRecDepth 20000 in
theorem ggX11_go_X11_records : GoodIn wsX11_go wsX11_records := goodIn_r _ [121, 122, 123, 8, 124, 125, 126, 6, 127, 30, 128, 129, 130, 131, 132, 133, 134, 135, 136, 137, 138, 139, 140, 141, 142, 143, 144, 145, 146, 147, 148, 149, 150, 151, 152, 153, 154, 155, 156, 157, 158, 159, 160, 161, 162, 163, 164, 165, 166, 167, 168, 169, 170, 171, 172, 173, 174, 175, 176, 177, 178, 179, 180, 181, 182, 183, 184, 185] (by decide +kernel) (by decide +kernel)
set_option maxRecDepth 20000 in
theorem gX11_go_X11_records : GoodIn wsX11_go (wsV RX11 376 RX11 yX11_records wsX11_records) := goodIn_app (goodIn_of _ (by decide +kernel)) ggX11_go_X11_records
theorem dX11_go_0 : decode cX11_go 0 = .ok (.aload_n 0, 1) := by decide +kernel
theorem dX11_go_1 : decode cX11_go 1 = .ok (.iload_n 1, 1) := by decide +kernel
theorem dX11_go_2 : decode cX11_go 2 = .ok (.invokevirtual 364, 3) := by decide +kernel
theorem dX11_go_5 : decode cX11_go 5 = .ok (.ifCond .eq 23, 3) := by decide +kernel
theorem dX11_go_8 : decode cX11_go 8 = .ok (.aload_n 0, 1) := by decide +kernel
theorem dX11_go_9 : decode cX11_go 9 = .ok (.getfield 40, 3) := by decide +kernel
theorem dX11_go_12 : decode cX11_go 12 = .ok (.aload_n 0, 1) := by decide +kernel
theorem dX11_go_13 : decode cX11_go 13 = .ok (.getfield 215, 3) := by decide +kernel
theorem dX11_go_16 : decode cX11_go 16 = .ok (.iaload, 1) := by decide +kernel
theorem dX11_go_17 : decode cX11_go 17 = .ok (.ifCond .eq 11, 3) := by decide +kernel
theorem dX11_go_20 : decode cX11_go 20 = .ok (.aload_n 0, 1) := by decide +kernel
theorem dX11_go_21 : decode cX11_go 21 = .ok (.iload_n 2, 1) := by decide +kernel
theorem dX11_go_22 : decode cX11_go 22 = .ok (.invokevirtual 367, 3) := by decide +kernel
theorem dX11_go_25 : decode cX11_go 25 = .ok (.ifCond .ne 5, 3) := by decide +kernel
theorem dX11_go_28 : decode cX11_go 28 = .ok (.iconst (-1), 1) := by decide +kernel
theorem dX11_go_29 : decode cX11_go 29 = .ok (.ireturn, 1) := by decide +kernel
theorem dX11_go_30 : decode cX11_go 30 = .ok (.aload_n 0, 1) := by decide +kernel
theorem dX11_go_31 : decode cX11_go 31 = .ok (.invokevirtual 352, 3) := by decide +kernel
theorem dX11_go_34 : decode cX11_go 34 = .ok (.aload_n 0, 1) := by decide +kernel
theorem dX11_go_35 : decode cX11_go 35 = .ok (.iload_n 1, 1) := by decide +kernel
theorem dX11_go_36 : decode cX11_go 36 = .ok (.iload_n 2, 1) := by decide +kernel
theorem dX11_go_37 : decode cX11_go 37 = .ok (.aload_n 0, 1) := by decide +kernel
theorem dX11_go_38 : decode cX11_go 38 = .ok (.invokevirtual 370, 3) := by decide +kernel
theorem dX11_go_41 : decode cX11_go 41 = .ok (.invokevirtual 373, 3) := by decide +kernel
theorem dX11_go_44 : decode cX11_go 44 = .ok (.istore_n 3, 1) := by decide +kernel
theorem dX11_go_45 : decode cX11_go 45 = .ok (.aload_n 0, 1) := by decide +kernel
theorem dX11_go_46 : decode cX11_go 46 = .ok (.invokevirtual 376, 3) := by decide +kernel
theorem dX11_go_49 : decode cX11_go 49 = .ok (.iload_n 3, 1) := by decide +kernel
theorem dX11_go_50 : decode cX11_go 50 = .ok (.ireturn, 1) := by decide +kernel
set_option maxRecDepth 20000 in
theorem ggX11_buoy_X11_isWave : GoodIn wsX11_buoy wsX11_isWave := goodIn_r _ [7, 8, 9, 10, 11, 6, 12, 32, 33, 34, 35, 36, 37, 38, 39, 40, 41, 42, 43, 44, 45, 46, 47, 48, 49, 50, 51, 52, 53, 54, 55, 56, 57, 58, 59, 60, 61, 62, 63, 64, 65, 66, 67, 68, 69, 70, 71, 72, 73, 74, 75, 76, 77, 78, 79, 80, 81, 82, 83, 84, 85, 86, 87, 88, 89] (by decide +kernel) (by decide +kernel)
set_option maxRecDepth 20000 in
theorem gX11_buoy_X11_isWave : GoodIn wsX11_buoy (wsV RX11 349 RX11 yX11_isWave wsX11_isWave) := goodIn_app (goodIn_of _ (by decide +kernel)) ggX11_buoy_X11_isWave
set_option maxRecDepth 20000 in
theorem ggX11_buoy_X11_isThing : GoodIn wsX11_buoy wsX11_isThing := goodIn_r _ [15, 10, 11, 6, 12] (by decide +kernel) (by decide +kernel)
set_option maxRecDepth 20000 in
theorem gX11_buoy_X11_isThing : GoodIn wsX11_buoy (va_wsS RX11 355 yX11_isThing wsX11_isThing) := goodIn_app (goodIn_of _ (by decide +kernel)) ggX11_buoy_X11_isThing
set_option maxRecDepth 20000 in
theorem ggX11_buoy_X11_copies : GoodIn wsX11_buoy wsX11_copies := goodIn_r _ [19, 2, 1, 20, 9, 21, 32, 33, 34, 35, 36, 37, 38, 39, 40, 41, 42, 43, 44, 45, 46, 47, 48, 49, 50, 51, 52, 53, 54, 55, 56, 57, 58, 59, 60, 61, 62, 63, 64, 65, 66, 67, 68, 69, 70, 71, 72, 73, 74, 75, 76, 77, 78, 79, 80, 81, 82, 83, 84, 85, 86, 87, 88, 89] (by decide +kernel) (by decide +kernel)
set_option maxRecDepth 20000 in
theorem gX11_buoy_X11_copies : GoodIn wsX11_buoy (wsV RX11 352 RX11 yX11_copies wsX11_copies) := goodIn_app (goodIn_of _ (by decide +kernel)) ggX11_buoy_X11_copies
set_option maxRecDepth 20000 in
theorem ggX11_buoy_X11_records : GoodIn wsX11_buoy wsX11_records := goodIn_r _ [25, 26, 27, 1, 28, 29, 30, 6, 31, 2, 32, 33, 34, 35, 36, 37, 38, 39, 40, 41, 42, 43, 44, 45, 46, 47, 48, 49, 50, 51, 52, 53, 54, 55, 56, 57, 58, 59, 60, 61, 62, 63, 64, 65, 66, 67, 68, 69, 70, 71, 72, 73, 74, 75, 76, 77, 78, 79, 80, 81, 82, 83, 84, 85, 86, 87, 88, 89] (by decide +kernel) (by decide +kernel)
set_option maxRecDepth 20000 in
theorem gX11_buoy_X11_records : GoodIn wsX11_buoy (wsV RX11 376 RX11 yX11_records wsX11_records) := goodIn_app (goodIn_of _ (by decide +kernel)) ggX11_buoy_X11_records
theorem dX11_buoy_0 : decode cX11_buoy 0 = .ok (.aload_n 0, 1) := by decide +kernel
theorem dX11_buoy_1 : decode cX11_buoy 1 = .ok (.iload_n 1, 1) := by decide +kernel
theorem dX11_buoy_2 : decode cX11_buoy 2 = .ok (.invokevirtual 349, 3) := by decide +kernel
theorem dX11_buoy_5 : decode cX11_buoy 5 = .ok (.ifCond .eq 33, 3) := by decide +kernel
theorem dX11_buoy_8 : decode cX11_buoy 8 = .ok (.iload_n 2, 1) := by decide +kernel
theorem dX11_buoy_9 : decode cX11_buoy 9 = .ok (.invokestatic 355, 3) := by decide +kernel
theorem dX11_buoy_12 : decode cX11_buoy 12 = .ok (.ifCond .eq 26, 3) := by decide +kernel
theorem dX11_buoy_15 : decode cX11_buoy 15 = .ok (.aload_n 0, 1) := by decide +kernel
theorem dX11_buoy_16 : decode cX11_buoy 16 = .ok (.getfield 98, 3) := by decide +kernel
theorem dX11_buoy_19 : decode cX11_buoy 19 = .ok (.iload_n 1, 1) := by decide +kernel
theorem dX11_buoy_20 : decode cX11_buoy 20 = .ok (.iaload, 1) := by decide +kernel
theorem dX11_buoy_21 : decode cX11_buoy 21 = .ok (.iload_n 2, 1) := by decide +kernel
theorem dX11_buoy_22 : decode cX11_buoy 22 = .ok (.ishr, 1) := by decide +kernel
theorem dX11_buoy_23 : decode cX11_buoy 23 = .ok (.iconst 1, 1) := by decide +kernel
theorem dX11_buoy_24 : decode cX11_buoy 24 = .ok (.iand, 1) := by decide +kernel
theorem dX11_buoy_25 : decode cX11_buoy 25 = .ok (.iconst 1, 1) := by decide +kernel
theorem dX11_buoy_26 : decode cX11_buoy 26 = .ok (.if_icmp .ne 7, 3) := by decide +kernel
theorem dX11_buoy_29 : decode cX11_buoy 29 = .ok (.iconst 1, 1) := by decide +kernel
theorem dX11_buoy_30 : decode cX11_buoy 30 = .ok (.goto 4, 3) := by decide +kernel
theorem dX11_buoy_33 : decode cX11_buoy 33 = .ok (.iconst 0, 1) := by decide +kernel
theorem dX11_buoy_34 : decode cX11_buoy 34 = .ok (.iload_n 3, 1) := by decide +kernel
theorem dX11_buoy_35 : decode cX11_buoy 35 = .ok (.if_icmp .ne 5, 3) := by decide +kernel
theorem dX11_buoy_38 : decode cX11_buoy 38 = .ok (.iconst 0, 1) := by decide +kernel
theorem dX11_buoy_39 : decode cX11_buoy 39 = .ok (.ireturn, 1) := by decide +kernel
theorem dX11_buoy_40 : decode cX11_buoy 40 = .ok (.aload_n 0, 1) := by decide +kernel
theorem dX11_buoy_41 : decode cX11_buoy 41 = .ok (.invokevirtual 352, 3) := by decide +kernel
theorem dX11_buoy_44 : decode cX11_buoy 44 = .ok (.aload_n 0, 1) := by decide +kernel
theorem dX11_buoy_45 : decode cX11_buoy 45 = .ok (.getfield 101, 3) := by decide +kernel
theorem dX11_buoy_48 : decode cX11_buoy 48 = .ok (.iload_n 1, 1) := by decide +kernel
theorem dX11_buoy_49 : decode cX11_buoy 49 = .ok (.dup2, 1) := by decide +kernel
theorem dX11_buoy_50 : decode cX11_buoy 50 = .ok (.iaload, 1) := by decide +kernel
theorem dX11_buoy_51 : decode cX11_buoy 51 = .ok (.iconst 1, 1) := by decide +kernel
theorem dX11_buoy_52 : decode cX11_buoy 52 = .ok (.iload_n 2, 1) := by decide +kernel
theorem dX11_buoy_53 : decode cX11_buoy 53 = .ok (.ishl, 1) := by decide +kernel
theorem dX11_buoy_54 : decode cX11_buoy 54 = .ok (.ixor, 1) := by decide +kernel
theorem dX11_buoy_55 : decode cX11_buoy 55 = .ok (.iastore, 1) := by decide +kernel
theorem dX11_buoy_56 : decode cX11_buoy 56 = .ok (.aload_n 0, 1) := by decide +kernel
theorem dX11_buoy_57 : decode cX11_buoy 57 = .ok (.invokevirtual 376, 3) := by decide +kernel
theorem dX11_buoy_60 : decode cX11_buoy 60 = .ok (.iconst 1, 1) := by decide +kernel
theorem dX11_buoy_61 : decode cX11_buoy 61 = .ok (.ireturn, 1) := by decide +kernel
set_option maxRecDepth 20000 in
theorem ggX11_fetch_X11_isParty : GoodIn wsX11_fetch wsX11_isParty := goodIn_r _ [7, 8, 9, 10, 11, 6, 12, 29, 30, 31, 32, 33, 34, 35, 36, 37, 38, 39, 40, 41, 42, 43, 44, 45, 46, 47, 48, 49, 50, 51, 52, 53, 54, 55, 56, 57, 58, 59, 60, 61, 62, 63, 64, 65, 66, 67, 68, 69, 70, 71, 72, 73, 74, 75, 76, 77, 78, 79, 80, 81, 82, 83, 84, 85, 86] (by decide +kernel) (by decide +kernel)
set_option maxRecDepth 20000 in
theorem gX11_fetch_X11_isParty : GoodIn wsX11_fetch (wsV RX11 358 RX11 yX11_isParty wsX11_isParty) := goodIn_app (goodIn_of _ (by decide +kernel)) ggX11_fetch_X11_isParty
set_option maxRecDepth 20000 in
theorem ggX11_fetch_X11_copies : GoodIn wsX11_fetch wsX11_copies := goodIn_r _ [16, 2, 1, 17, 9, 18, 29, 30, 31, 32, 33, 34, 35, 36, 37, 38, 39, 40, 41, 42, 43, 44, 45, 46, 47, 48, 49, 50, 51, 52, 53, 54, 55, 56, 57, 58, 59, 60, 61, 62, 63, 64, 65, 66, 67, 68, 69, 70, 71, 72, 73, 74, 75, 76, 77, 78, 79, 80, 81, 82, 83, 84, 85, 86] (by decide +kernel) (by decide +kernel)
set_option maxRecDepth 20000 in
theorem gX11_fetch_X11_copies : GoodIn wsX11_fetch (wsV RX11 352 RX11 yX11_copies wsX11_copies) := goodIn_app (goodIn_of _ (by decide +kernel)) ggX11_fetch_X11_copies
set_option maxRecDepth 20000 in
theorem ggX11_fetch_X11_records : GoodIn wsX11_fetch wsX11_records := goodIn_r _ [22, 23, 24, 1, 25, 26, 27, 6, 28, 2, 29, 30, 31, 32, 33, 34, 35, 36, 37, 38, 39, 40, 41, 42, 43, 44, 45, 46, 47, 48, 49, 50, 51, 52, 53, 54, 55, 56, 57, 58, 59, 60, 61, 62, 63, 64, 65, 66, 67, 68, 69, 70, 71, 72, 73, 74, 75, 76, 77, 78, 79, 80, 81, 82, 83, 84, 85, 86] (by decide +kernel) (by decide +kernel)
set_option maxRecDepth 20000 in
theorem gX11_fetch_X11_records : GoodIn wsX11_fetch (wsV RX11 376 RX11 yX11_records wsX11_records) := goodIn_app (goodIn_of _ (by decide +kernel)) ggX11_fetch_X11_records
theorem dX11_fetch_0 : decode cX11_fetch 0 = .ok (.aload_n 0, 1) := by decide +kernel
theorem dX11_fetch_1 : decode cX11_fetch 1 = .ok (.iload_n 1, 1) := by decide +kernel
theorem dX11_fetch_2 : decode cX11_fetch 2 = .ok (.invokevirtual 358, 3) := by decide +kernel
theorem dX11_fetch_5 : decode cX11_fetch 5 = .ok (.ifCond .eq 15, 3) := by decide +kernel
theorem dX11_fetch_8 : decode cX11_fetch 8 = .ok (.aload_n 0, 1) := by decide +kernel
theorem dX11_fetch_9 : decode cX11_fetch 9 = .ok (.getfield 98, 3) := by decide +kernel
theorem dX11_fetch_12 : decode cX11_fetch 12 = .ok (.bipush 15, 2) := by decide +kernel
theorem dX11_fetch_14 : decode cX11_fetch 14 = .ok (.iload_n 1, 1) := by decide +kernel
theorem dX11_fetch_15 : decode cX11_fetch 15 = .ok (.iadd, 1) := by decide +kernel
theorem dX11_fetch_16 : decode cX11_fetch 16 = .ok (.iaload, 1) := by decide +kernel
theorem dX11_fetch_17 : decode cX11_fetch 17 = .ok (.ifCond .ne 5, 3) := by decide +kernel
theorem dX11_fetch_20 : decode cX11_fetch 20 = .ok (.iconst 0, 1) := by decide +kernel
theorem dX11_fetch_21 : decode cX11_fetch 21 = .ok (.ireturn, 1) := by decide +kernel
theorem dX11_fetch_22 : decode cX11_fetch 22 = .ok (.aload_n 0, 1) := by decide +kernel
theorem dX11_fetch_23 : decode cX11_fetch 23 = .ok (.invokevirtual 352, 3) := by decide +kernel
theorem dX11_fetch_26 : decode cX11_fetch 26 = .ok (.aload_n 0, 1) := by decide +kernel
theorem dX11_fetch_27 : decode cX11_fetch 27 = .ok (.getfield 101, 3) := by decide +kernel
theorem dX11_fetch_30 : decode cX11_fetch 30 = .ok (.bipush 15, 2) := by decide +kernel
theorem dX11_fetch_32 : decode cX11_fetch 32 = .ok (.iload_n 1, 1) := by decide +kernel
theorem dX11_fetch_33 : decode cX11_fetch 33 = .ok (.iadd, 1) := by decide +kernel
theorem dX11_fetch_34 : decode cX11_fetch 34 = .ok (.iconst 0, 1) := by decide +kernel
theorem dX11_fetch_35 : decode cX11_fetch 35 = .ok (.iastore, 1) := by decide +kernel
theorem dX11_fetch_36 : decode cX11_fetch 36 = .ok (.aload_n 0, 1) := by decide +kernel
theorem dX11_fetch_37 : decode cX11_fetch 37 = .ok (.invokevirtual 376, 3) := by decide +kernel
theorem dX11_fetch_40 : decode cX11_fetch 40 = .ok (.iconst 1, 1) := by decide +kernel
theorem dX11_fetch_41 : decode cX11_fetch 41 = .ok (.ireturn, 1) := by decide +kernel
set_option maxRecDepth 20000 in
theorem ggX11_isLong_X11_in : GoodIn wsX11_isLong wsX11_in := goodIn_r _ [4] (by decide +kernel) (by decide +kernel)
set_option maxRecDepth 20000 in
theorem gX11_isLong_X11_in : GoodIn wsX11_isLong (va_wsS RX11 281 yX11_in wsX11_in) := goodIn_app (goodIn_of _ (by decide +kernel)) ggX11_isLong_X11_in
theorem dX11_isLong_0 : decode cX11_isLong 0 = .ok (.iload_n 0, 1) := by decide +kernel
theorem dX11_isLong_1 : decode cX11_isLong 1 = .ok (.iconst 0, 1) := by decide +kernel
theorem dX11_isLong_2 : decode cX11_isLong 2 = .ok (.bipush 40, 2) := by decide +kernel
theorem dX11_isLong_4 : decode cX11_isLong 4 = .ok (.invokestatic 281, 3) := by decide +kernel
theorem dX11_isLong_7 : decode cX11_isLong 7 = .ok (.ireturn, 1) := by decide +kernel
set_option maxRecDepth 20000 in
theorem ggX11_years_X11_isLong : GoodIn wsX11_years wsX11_isLong := goodIn_r _ [5, 6, 7, 4, 8] (by decide +kernel) (by decide +kernel)
set_option maxRecDepth 20000 in
theorem gX11_years_X11_isLong : GoodIn wsX11_years (va_wsS RX11 379 yX11_isLong wsX11_isLong) := goodIn_app (goodIn_of _ (by decide +kernel)) ggX11_years_X11_isLong
set_option maxRecDepth 20000 in
theorem ggX11_years_X11_copies : GoodIn wsX11_years wsX11_copies := goodIn_r _ [12, 13, 1, 14, 15, 16, 95, 96, 97, 98, 99, 100, 101, 102, 103, 104, 105, 106, 107, 108, 109, 110, 111, 112, 113, 114, 115, 116, 117, 118, 119, 120, 121, 122, 123, 124, 125, 126, 127, 128, 129, 130, 131, 132, 133, 134, 135, 136, 137, 138, 139, 140, 141, 142, 143, 144, 145, 146, 147, 148, 149, 150, 151, 152] (by decide +kernel) (by decide +kernel)
set_option maxRecDepth 20000 in
theorem gX11_years_X11_copies : GoodIn wsX11_years (wsV RX11 352 RX11 yX11_copies wsX11_copies) := goodIn_app (goodIn_of _ (by decide +kernel)) ggX11_years_X11_copies
set_option maxRecDepth 20000 in
theorem ggX11_years_X11_yearsGo : GoodIn wsX11_years wsX11_yearsGo := goodIn_r _ [20, 21, 22, 23, 4, 24, 25, 15, 26, 13, 27, 28, 29, 30, 31, 16, 32, 33, 34, 35, 36, 37, 38, 39, 40, 41, 42, 43, 44, 45, 46, 47, 48, 49, 50, 51, 52, 53, 54, 55, 56, 57, 58, 59, 60, 61, 62, 63, 64, 65, 66, 67, 68, 69, 70, 71, 72, 73, 74, 75, 76, 77, 78, 79, 80, 81, 82, 83, 84, 95, 96, 97, 98, 99, 100, 101, 102, 103, 104, 105, 106, 107, 108, 109, 110, 111, 112, 113, 114, 115, 116, 117, 118, 119, 120, 121, 122, 123, 124, 125, 126, 127, 128, 129, 130, 131, 132, 133, 134, 135, 136, 137, 138, 139, 140, 141, 142, 143, 144, 145, 146, 147, 148, 149, 150, 151, 152] (by decide +kernel) (by decide +kernel)
set_option maxRecDepth 20000 in
theorem gX11_years_X11_yearsGo : GoodIn wsX11_years (wsV RX11 382 RX11 yX11_yearsGo wsX11_yearsGo) := goodIn_app (goodIn_of _ (by decide +kernel)) ggX11_years_X11_yearsGo
set_option maxRecDepth 20000 in
theorem ggX11_years_X11_records : GoodIn wsX11_years wsX11_records := goodIn_r _ [88, 89, 90, 1, 91, 92, 93, 4, 94, 13, 95, 96, 97, 98, 99, 100, 101, 102, 103, 104, 105, 106, 107, 108, 109, 110, 111, 112, 113, 114, 115, 116, 117, 118, 119, 120, 121, 122, 123, 124, 125, 126, 127, 128, 129, 130, 131, 132, 133, 134, 135, 136, 137, 138, 139, 140, 141, 142, 143, 144, 145, 146, 147, 148, 149, 150, 151, 152] (by decide +kernel) (by decide +kernel)
set_option maxRecDepth 20000 in
theorem gX11_years_X11_records : GoodIn wsX11_years (wsV RX11 376 RX11 yX11_records wsX11_records) := goodIn_app (goodIn_of _ (by decide +kernel)) ggX11_years_X11_records
theorem dX11_years_0 : decode cX11_years 0 = .ok (.iload_n 1, 1) := by decide +kernel
theorem dX11_years_1 : decode cX11_years 1 = .ok (.invokestatic 379, 3) := by decide +kernel
theorem dX11_years_4 : decode cX11_years 4 = .ok (.ifCond .ne 5, 3) := by decide +kernel
theorem dX11_years_7 : decode cX11_years 7 = .ok (.iconst (-1), 1) := by decide +kernel
theorem dX11_years_8 : decode cX11_years 8 = .ok (.ireturn, 1) := by decide +kernel
theorem dX11_years_9 : decode cX11_years 9 = .ok (.iload_n 1, 1) := by decide +kernel
theorem dX11_years_10 : decode cX11_years 10 = .ok (.ifCond .ne 11, 3) := by decide +kernel
theorem dX11_years_13 : decode cX11_years 13 = .ok (.aload_n 0, 1) := by decide +kernel
theorem dX11_years_14 : decode cX11_years 14 = .ok (.getfield 98, 3) := by decide +kernel
theorem dX11_years_17 : decode cX11_years 17 = .ok (.bipush 27, 2) := by decide +kernel
theorem dX11_years_19 : decode cX11_years 19 = .ok (.iaload, 1) := by decide +kernel
theorem dX11_years_20 : decode cX11_years 20 = .ok (.ireturn, 1) := by decide +kernel
theorem dX11_years_21 : decode cX11_years 21 = .ok (.aload_n 0, 1) := by decide +kernel
theorem dX11_years_22 : decode cX11_years 22 = .ok (.invokevirtual 352, 3) := by decide +kernel
theorem dX11_years_25 : decode cX11_years 25 = .ok (.aload_n 0, 1) := by decide +kernel
theorem dX11_years_26 : decode cX11_years 26 = .ok (.iload_n 1, 1) := by decide +kernel
theorem dX11_years_27 : decode cX11_years 27 = .ok (.invokevirtual 382, 3) := by decide +kernel
theorem dX11_years_30 : decode cX11_years 30 = .ok (.aload_n 0, 1) := by decide +kernel
theorem dX11_years_31 : decode cX11_years 31 = .ok (.invokevirtual 376, 3) := by decide +kernel
theorem dX11_years_34 : decode cX11_years 34 = .ok (.aload_n 0, 1) := by decide +kernel
theorem dX11_years_35 : decode cX11_years 35 = .ok (.getfield 98, 3) := by decide +kernel
theorem dX11_years_38 : decode cX11_years 38 = .ok (.bipush 27, 2) := by decide +kernel
theorem dX11_years_40 : decode cX11_years 40 = .ok (.iaload, 1) := by decide +kernel
theorem dX11_years_41 : decode cX11_years 41 = .ok (.ireturn, 1) := by decide +kernel
theorem dX11_undo_0 : decode cX11_undo 0 = .ok (.aload_n 0, 1) := by decide +kernel
theorem dX11_undo_1 : decode cX11_undo 1 = .ok (.getfield 230, 3) := by decide +kernel
theorem dX11_undo_4 : decode cX11_undo 4 = .ok (.ifCond .ne 5, 3) := by decide +kernel
theorem dX11_undo_7 : decode cX11_undo 7 = .ok (.iconst 0, 1) := by decide +kernel
theorem dX11_undo_8 : decode cX11_undo 8 = .ok (.ireturn, 1) := by decide +kernel
theorem dX11_undo_9 : decode cX11_undo 9 = .ok (.aload_n 0, 1) := by decide +kernel
theorem dX11_undo_10 : decode cX11_undo 10 = .ok (.dup, 1) := by decide +kernel
theorem dX11_undo_11 : decode cX11_undo 11 = .ok (.getfield 230, 3) := by decide +kernel
theorem dX11_undo_14 : decode cX11_undo 14 = .ok (.iconst 1, 1) := by decide +kernel
theorem dX11_undo_15 : decode cX11_undo 15 = .ok (.isub, 1) := by decide +kernel
theorem dX11_undo_16 : decode cX11_undo 16 = .ok (.putfield 230, 3) := by decide +kernel
theorem dX11_undo_19 : decode cX11_undo 19 = .ok (.iconst 0, 1) := by decide +kernel
theorem dX11_undo_20 : decode cX11_undo 20 = .ok (.istore_n 1, 1) := by decide +kernel
theorem dX11_undo_21 : decode cX11_undo 21 = .ok (.iload_n 1, 1) := by decide +kernel
theorem dX11_undo_22 : decode cX11_undo 22 = .ok (.bipush 29, 2) := by decide +kernel
theorem dX11_undo_24 : decode cX11_undo 24 = .ok (.if_icmp .ge 29, 3) := by decide +kernel
theorem dX11_undo_27 : decode cX11_undo 27 = .ok (.aload_n 0, 1) := by decide +kernel
theorem dX11_undo_28 : decode cX11_undo 28 = .ok (.getfield 98, 3) := by decide +kernel
theorem dX11_undo_31 : decode cX11_undo 31 = .ok (.iload_n 1, 1) := by decide +kernel
theorem dX11_undo_32 : decode cX11_undo 32 = .ok (.aload_n 0, 1) := by decide +kernel
theorem dX11_undo_33 : decode cX11_undo 33 = .ok (.getfield 110, 3) := by decide +kernel
theorem dX11_undo_36 : decode cX11_undo 36 = .ok (.bipush 29, 2) := by decide +kernel
theorem dX11_undo_38 : decode cX11_undo 38 = .ok (.aload_n 0, 1) := by decide +kernel
theorem dX11_undo_39 : decode cX11_undo 39 = .ok (.getfield 230, 3) := by decide +kernel
theorem dX11_undo_42 : decode cX11_undo 42 = .ok (.imul, 1) := by decide +kernel
theorem dX11_undo_43 : decode cX11_undo 43 = .ok (.iload_n 1, 1) := by decide +kernel
theorem dX11_undo_44 : decode cX11_undo 44 = .ok (.iadd, 1) := by decide +kernel
theorem dX11_undo_45 : decode cX11_undo 45 = .ok (.iaload, 1) := by decide +kernel
theorem dX11_undo_46 : decode cX11_undo 46 = .ok (.iastore, 1) := by decide +kernel
theorem dX11_undo_47 : decode cX11_undo 47 = .ok (.iinc 1 1, 3) := by decide +kernel
theorem dX11_undo_50 : decode cX11_undo 50 = .ok (.goto (-29), 3) := by decide +kernel
theorem dX11_undo_53 : decode cX11_undo 53 = .ok (.iconst 1, 1) := by decide +kernel
theorem dX11_undo_54 : decode cX11_undo 54 = .ok (.ireturn, 1) := by decide +kernel
set_option maxRecDepth 20000 in
theorem ggX11_casesNow_X11_mayAt : GoodIn wsX11_casesNow wsX11_mayAt := goodIn_r _ [7, 8, 9, 10, 11, 6, 12, 13, 2, 17, 18, 19, 20, 21, 22, 23, 24, 25, 26, 27, 28, 29, 30, 31, 32, 33, 34, 35, 36, 37, 38, 39, 40, 41, 42, 43, 44, 45, 46, 47, 48, 49, 50, 51, 52, 53, 54, 55, 56, 57, 58, 59, 60, 61, 62, 63, 64, 65, 66, 67, 68, 69, 70, 71, 72, 73, 74] (by decide +kernel) (by decide +kernel)
set_option maxRecDepth 20000 in
theorem gX11_casesNow_X11_mayAt : GoodIn wsX11_casesNow (wsV RX11 309 RX11 yX11_mayAt wsX11_mayAt) := goodIn_app (goodIn_of _ (by decide +kernel)) ggX11_casesNow_X11_mayAt
set_option maxRecDepth 20000 in
theorem ggX11_casesNow_X11_bits : GoodIn wsX11_casesNow wsX11_bits := goodIn_r _ [16] (by decide +kernel) (by decide +kernel)
set_option maxRecDepth 20000 in
theorem gX11_casesNow_X11_bits : GoodIn wsX11_casesNow (va_wsS RX11 312 yX11_bits wsX11_bits) := goodIn_app (goodIn_of _ (by decide +kernel)) ggX11_casesNow_X11_bits
theorem dX11_casesNow_0 : decode cX11_casesNow 0 = .ok (.iconst 1, 1) := by decide +kernel
theorem dX11_casesNow_1 : decode cX11_casesNow 1 = .ok (.istore_n 1, 1) := by decide +kernel
theorem dX11_casesNow_2 : decode cX11_casesNow 2 = .ok (.iconst 0, 1) := by decide +kernel
theorem dX11_casesNow_3 : decode cX11_casesNow 3 = .ok (.istore_n 2, 1) := by decide +kernel
theorem dX11_casesNow_4 : decode cX11_casesNow 4 = .ok (.iload_n 2, 1) := by decide +kernel
theorem dX11_casesNow_5 : decode cX11_casesNow 5 = .ok (.aload_n 0, 1) := by decide +kernel
theorem dX11_casesNow_6 : decode cX11_casesNow 6 = .ok (.getfield 40, 3) := by decide +kernel
theorem dX11_casesNow_9 : decode cX11_casesNow 9 = .ok (.aload_n 0, 1) := by decide +kernel
theorem dX11_casesNow_10 : decode cX11_casesNow 10 = .ok (.getfield 215, 3) := by decide +kernel
theorem dX11_casesNow_13 : decode cX11_casesNow 13 = .ok (.iaload, 1) := by decide +kernel
theorem dX11_casesNow_14 : decode cX11_casesNow 14 = .ok (.if_icmp .ge 20, 3) := by decide +kernel
theorem dX11_casesNow_17 : decode cX11_casesNow 17 = .ok (.iload_n 1, 1) := by decide +kernel
theorem dX11_casesNow_18 : decode cX11_casesNow 18 = .ok (.aload_n 0, 1) := by decide +kernel
theorem dX11_casesNow_19 : decode cX11_casesNow 19 = .ok (.iload_n 2, 1) := by decide +kernel
theorem dX11_casesNow_20 : decode cX11_casesNow 20 = .ok (.invokevirtual 309, 3) := by decide +kernel
theorem dX11_casesNow_23 : decode cX11_casesNow 23 = .ok (.invokestatic 312, 3) := by decide +kernel
theorem dX11_casesNow_26 : decode cX11_casesNow 26 = .ok (.imul, 1) := by decide +kernel
theorem dX11_casesNow_27 : decode cX11_casesNow 27 = .ok (.istore_n 1, 1) := by decide +kernel
theorem dX11_casesNow_28 : decode cX11_casesNow 28 = .ok (.iinc 2 1, 3) := by decide +kernel
theorem dX11_casesNow_31 : decode cX11_casesNow 31 = .ok (.goto (-27), 3) := by decide +kernel
theorem dX11_casesNow_34 : decode cX11_casesNow 34 = .ok (.iload_n 1, 1) := by decide +kernel
theorem dX11_casesNow_35 : decode cX11_casesNow 35 = .ok (.ireturn, 1) := by decide +kernel
set_option maxHeartbeats 4000000 in
set_option maxRecDepth 100000 in
theorem br_needs {l : Launch} {dC : Nat → ClassId} {dI : Nat → Nat → Nat} {cB cI cJ cZ cS : ClassId} {h : Nat} {a : Nat → Nat} {as : List Value} {r : Int32} {s' : RS} (s : RS) (x1 : Int32) (x2 : Int32) (x3 : Int32) (hB : r_needs s x1 x2 x3 = some (r, s')) : BlkI l yX11_needs wsX11_needs ({ frames := 4, cells := 0, slots := 0, locals := 89 }) cX11_needs 4 (some .int) (dC, dI) (tysA cB cI cJ cZ cS) as 0 (mwS cB cI cJ cZ h a s) [(0, .ref h), (1, .int x1), (2, .int x2), (3, .int x3)] [] (fun x u => x = r ∧ u = (mwS cB cI cJ cZ h a s')) := by
  intro p e s0 m below meth c A E H locs ls hP hD hS hl
  obtain ⟨C, hr, hlocks, hA, hK, hN⟩ := id E
  obtain ⟨hx, hb, hml, hown, hts⟩ := id C
  unfold r_needs at hB
  refine lv_aload_n hx hb dX11_needs_0 rfl (lv_at hl 0 rfl) ?_
  refine lv_iload_n hx hb dX11_needs_1 rfl (lv_at hl 1 rfl) ?_
  obtain ⟨q_, s1, hc, hB⟩ := bindI_inv hB
  refine q_goiF (va_runV (As := [.int x1]) (rest := []) C (cr_isParty hc _) (cwV 1 hts gX11_needs_X11_isParty rfl rfl rfl (by decide +kernel) ⟨Nat.le_of_ble_eq_true rfl, Nat.le_of_ble_eq_true rfl⟩) (q_preV hK hP (ci := 11) (q0 := 0) rfl rfl rfl (q_preF hN hK hP hD)) rfl rfl hl.1 rfl (lv_room (Nat.le_of_ble_eq_true rfl)) dX11_needs_2 ⟨Nat.le_of_ble_eq_true rfl, Nat.le_of_ble_eq_true rfl⟩) hD hS hA (fun r2 w1 H locs hw hP hD hS => ?_)
  obtain ⟨hq_, hw⟩ := hw; subst hw; subst hq_
  refine lv_if_eq (tgt := 23) hx hb dX11_needs_5 (by decide) (fun c3 => ?_) (fun c3 => ?_)
  · have hB := if_p hB c3
    refine lv_iconst (v := (-1)) hx hb dX11_needs_23 (by decide) ?_
    exact q_iret C hr hlocks hK hP hD hS (Nat.le_of_ble_eq_true rfl) (Nat.le_of_ble_eq_true rfl) dX11_needs_24 (by cases hB; exact ⟨rfl, rfl⟩)
  · have hB := if_n hB c3
    refine lv_aload_n hx hb dX11_needs_8 rfl (lv_at hl 0 rfl) ?_
    refine lv_iload_n hx hb dX11_needs_9 rfl (lv_at hl 2 rfl) ?_
    obtain ⟨q_, s4, hc, hB⟩ := bindI_inv hB
    refine q_goiF (va_runV (As := [.int x2]) (rest := []) C (cr_isWave hc _) (cwV 1 hts gX11_needs_X11_isWave rfl rfl rfl (by decide +kernel) ⟨Nat.le_of_ble_eq_true rfl, Nat.le_of_ble_eq_true rfl⟩) (q_preV hK hP (ci := 11) (q0 := 0) rfl rfl rfl (q_preF hN hK hP hD)) rfl rfl hl.1 rfl (lv_room (Nat.le_of_ble_eq_true rfl)) dX11_needs_10 ⟨Nat.le_of_ble_eq_true rfl, Nat.le_of_ble_eq_true rfl⟩) hD hS hA (fun r5 w1 H locs hw hP hD hS => ?_)
    obtain ⟨hq_, hw⟩ := hw; subst hw; subst hq_
    refine lv_if_eq (tgt := 23) hx hb dX11_needs_13 (by decide) (fun c6 => ?_) (fun c6 => ?_)
    · have hB := if_p hB c6
      refine lv_iconst (v := (-1)) hx hb dX11_needs_23 (by decide) ?_
      exact q_iret C hr hlocks hK hP hD hS (Nat.le_of_ble_eq_true rfl) (Nat.le_of_ble_eq_true rfl) dX11_needs_24 (by cases hB; exact ⟨rfl, rfl⟩)
    · have hB := if_n hB c6
      refine lv_iload_n hx hb dX11_needs_16 rfl (lv_at hl 3 rfl) ?_
      obtain ⟨q_, hc, hB⟩ := bindP_inv hB
      refine q_goi0 (va_runS (As := [.int x3]) (rest := []) C (cr_isThing hc _) (va_cwS 1 hts gX11_needs_X11_isThing rfl rfl rfl (by decide +kernel) ⟨Nat.le_of_ble_eq_true rfl, Nat.le_of_ble_eq_true rfl⟩) (q_pre0 hN hK) rfl rfl hl.1 rfl (lv_room (Nat.le_of_ble_eq_true rfl)) dX11_needs_17 ⟨Nat.le_of_ble_eq_true rfl, Nat.le_of_ble_eq_true rfl⟩) hP hD hS hA (fun r7 w1 H locs hw hP hS => ?_)
      subst hw
      refine lv_if_ne (tgt := 25) hx hb dX11_needs_20 (by decide) (fun c8 => ?_) (fun c8 => ?_)
      · have hB := if_n hB c8
        refine lv_aload_n hx hb dX11_needs_25 rfl (lv_at hl 0 rfl) ?_
        obtain ⟨s9, hc, hB⟩ := bindP_inv hB
        refine q_govF (va_runV (As := []) (rest := []) C (cr_copies hc _) (cwV 0 hts gX11_needs_X11_copies rfl rfl rfl (by decide +kernel) ⟨Nat.le_of_ble_eq_true rfl, Nat.le_of_ble_eq_true rfl⟩) (q_preV hK hP (ci := 11) (q0 := 0) rfl rfl rfl (q_preF hN hK hP hD)) rfl rfl hl.1 rfl (lv_room (Nat.le_of_ble_eq_true rfl)) dX11_needs_26 ⟨Nat.le_of_ble_eq_true rfl, Nat.le_of_ble_eq_true rfl⟩) hD hS hA (fun w1 H locs hw hP hD hS => ?_)
        subst hw
        refine lv_aload_n hx hb dX11_needs_29 rfl (lv_at hl 0 rfl) ?_
        refine lv_iload_n hx hb dX11_needs_30 rfl (lv_at hl 1 rfl) ?_
        refine lv_iload_n hx hb dX11_needs_31 rfl (lv_at hl 2 rfl) ?_
        refine lv_iload_n hx hb dX11_needs_32 rfl (lv_at hl 3 rfl) ?_
        obtain ⟨q_, s10, hc, hB⟩ := bindI_inv hB
        refine q_goiF (va_runV (As := [.int x1, .int x2, .int x3]) (rest := []) C (cr_needsOf hc _) (cwV 3 hts gX11_needs_X11_needsOf rfl rfl rfl (by decide +kernel) ⟨Nat.le_of_ble_eq_true rfl, Nat.le_of_ble_eq_true rfl⟩) (q_preV hK hP (ci := 11) (q0 := 0) rfl rfl rfl (q_preF hN hK hP hD)) rfl rfl hl.1 rfl (lv_room (Nat.le_of_ble_eq_true rfl)) dX11_needs_33 ⟨Nat.le_of_ble_eq_true rfl, Nat.le_of_ble_eq_true rfl⟩) hD hS hA (fun r11 w1 H locs hw hP hD hS => ?_)
        obtain ⟨hq_, hw⟩ := hw; subst hw; subst hq_
        exact q_iret C hr hlocks hK hP hD hS (Nat.le_of_ble_eq_true rfl) (Nat.le_of_ble_eq_true rfl) dX11_needs_36 (by cases hB; exact ⟨rfl, rfl⟩)
      · have hB := if_p hB c8
        refine lv_iconst (v := (-1)) hx hb dX11_needs_23 (by decide) ?_
        exact q_iret C hr hlocks hK hP hD hS (Nat.le_of_ble_eq_true rfl) (Nat.le_of_ble_eq_true rfl) dX11_needs_24 (by cases hB; exact ⟨rfl, rfl⟩)
theorem cr_needs {l : Launch} {dC : Nat → ClassId} {dI : Nat → Nat → Nat} {cB cI cJ cZ cS : ClassId} {h : Nat} {a : Nat → Nat} {r : Int32} {s' : RS} {s : RS} {x1 : Int32} {x2 : Int32} {x3 : Int32} (hB : r_needs s x1 x2 x3 = some (r, s')) : CI l yX11_needs wsX11_needs ({ frames := 4, cells := 0, slots := 0, locals := 89 }) (dC, dI) (tysA cB cI cJ cZ cS) (mwS cB cI cJ cZ h a s) [.ref h, .int x1, .int x2, .int x3] (fun x u => x = r ∧ u = (mwS cB cI cJ cZ h a s')) :=
  CI_of (cc := cX11_needs) (maxL := 4) (ret := (some .int)) (by decide) rfl (Nat.le_of_ble_eq_true rfl) (br_needs _ _ _ _ hB)
theorem LX11_records_110 : Cond.fieldLink RX11 110 "GuessFerryModel" "history" "[I" ∈ wsX11_records := by decide +kernel
theorem LX11_records_230 : Cond.fieldLink RX11 230 "GuessFerryModel" "undos" "I" ∈ wsX11_records := by decide +kernel
theorem LX11_records_98 : Cond.fieldLink RX11 98 "GuessFerryModel" "now" "[I" ∈ wsX11_records := by decide +kernel
theorem inX11_records_X11 : ∀ w ∈ u_ws RX11 TX11 58, w ∈ wsX11_records := fun _ h => List.mem_cons_of_mem _ (List.mem_append_right _ h)
set_option maxHeartbeats 4000000 in
set_option maxRecDepth 100000 in
theorem br_records_51 {l : Launch} {dC : Nat → ClassId} {dI : Nat → Nat → Nat} {cB cI cJ cZ cS : ClassId} {h : Nat} {a : Nat → Nat} {as : List Value} {s' : RS} {k51 : RS → Int32 → Option RS} (hk51 : ∀ (s : RS) (x1 : Int32), k51 s x1 = some s' → BlkV l yX11_records wsX11_records ({ frames := 1, cells := 0, slots := 0, locals := 21 }) cX11_records 2 none (dC, dI) (tysA cB cI cJ cZ cS) as 51 (mwS cB cI cJ cZ h a s) [(0, .ref h), (1, .int x1)] [] (fun u => u = (mwS cB cI cJ cZ h a s'))) (s : RS) (x1 : Int32) (hB : r_records_51 k51 s x1 = some s') : BlkV l yX11_records wsX11_records ({ frames := 1, cells := 0, slots := 0, locals := 21 }) cX11_records 2 none (dC, dI) (tysA cB cI cJ cZ cS) as 51 (mwS cB cI cJ cZ h a s) [(0, .ref h), (1, .int x1)] [] (fun u => u = (mwS cB cI cJ cZ h a s')) := by
  intro p e s0 m below meth c A E H locs ls hP hD hS hl
  obtain ⟨C, hr, hlocks, hA, hK, hN⟩ := id E
  obtain ⟨hx, hb, hml, hown, hts⟩ := id C
  unfold r_records_51 at hB
  refine lv_iload_n hx hb dX11_records_51 rfl (lv_at hl 1 rfl) ?_
  refine lv_bipush (v := 29) hx hb dX11_records_52 (by decide) ?_
  refine lv_icmp_ge (tgt := 83) hx hb dX11_records_54 (by decide) (fun c1 => ?_) (fun c1 => ?_)
  · have hB := if_p hB c1
    refine lv_aload_n hx hb dX11_records_83 rfl (lv_at hl 0 rfl) ?_
    refine lv_dup hx hb dX11_records_84 rfl ?_
    refine q_get (v := .int (s.v 48)) C inX11_records_X11 hK hP 0 rfl rfl 48 (by decide) rfl LX11_records_230 rfl dX11_records_85 ?_
    refine lv_iconst (v := 1) hx hb dX11_records_88 (by decide) ?_
    refine lv_iadd hx hb dX11_records_89 ?_
    obtain ⟨s2, hs3, hB⟩ := letS_inv hB
    refine q_put (ty := .int) (w2 := (mwS cB cI cJ cZ h a s2)) tyX11 tyX11_ok nmX11 C inX11_records_X11 hK hP hD hS 0 rfl rfl 48 (by decide) rfl LX11_records_230 rfl (by decide +kernel) (rfl) rfl (Nat.le_of_ble_eq_true rfl) dX11_records_90 (mwS_v48 hs3) (fun H locs hP hD hS => ?_)
    refine lv_aload_n hx hb dX11_records_93 rfl (lv_at hl 0 rfl) ?_
    obtain ⟨s4, hc, hB⟩ := bindP_inv hB
    refine q_govF (va_runV (As := []) (rest := []) C (cr_keepsRow hc _) (cwV 0 hts gX11_records_X11_keepsRow rfl rfl rfl (by decide +kernel) ⟨Nat.le_of_ble_eq_true rfl, Nat.le_of_ble_eq_true rfl⟩) (q_preV hK hP (ci := 11) (q0 := 0) rfl rfl rfl (q_preF hN hK hP hD)) rfl rfl hl.1 rfl (lv_room (Nat.le_of_ble_eq_true rfl)) dX11_records_94 ⟨Nat.le_of_ble_eq_true rfl, Nat.le_of_ble_eq_true rfl⟩) hD hS hA (fun w1 H locs hw hP hD hS => ?_)
    subst hw
    exact q_vret C hr hlocks hK hP hD hS (Nat.le_of_ble_eq_true rfl) (Nat.le_of_ble_eq_true rfl) dX11_records_97 (by cases hB; rfl)
  · have hB := if_n hB c1
    refine lv_aload_n hx hb dX11_records_57 rfl (lv_at hl 0 rfl) ?_
    refine q_get (v := .ref (a 49)) C inX11_records_X11 hK hP 0 rfl rfl 49 (by decide) rfl LX11_records_110 rfl dX11_records_58 ?_
    refine lv_bipush (v := 29) hx hb dX11_records_61 (by decide) ?_
    refine lv_aload_n hx hb dX11_records_63 rfl (lv_at hl 0 rfl) ?_
    refine q_get (v := .int (s.v 48)) C inX11_records_X11 hK hP 0 rfl rfl 48 (by decide) rfl LX11_records_230 rfl dX11_records_64 ?_
    refine lv_imul hx hb dX11_records_67 ?_
    refine lv_iload_n hx hb dX11_records_68 rfl (lv_at hl 1 rfl) ?_
    refine lv_iadd hx hb dX11_records_69 ?_
    refine lv_aload_n hx hb dX11_records_70 rfl (lv_at hl 0 rfl) ?_
    refine q_get (v := .ref (a 43)) C inX11_records_X11 hK hP 0 rfl rfl 43 (by decide) rfl LX11_records_98 rfl dX11_records_71 ?_
    refine lv_iload_n hx hb dX11_records_74 rfl (lv_at hl 1 rfl) ?_
    obtain ⟨g5, hB⟩ := guard_inv hB
    refine q_iald (x := (s.f 43 (Int32.toNatClampNeg x1))) C hK hP 27 1 rfl rfl (vpb_in g5) dX11_records_75 rfl ?_
    obtain ⟨g6, hB⟩ := guard_inv hB
    obtain ⟨s7, hs8, hB⟩ := letS_inv hB
    refine q_iast (f2 := (upd (s.f 49) (Int32.toNatClampNeg ((29 * (s.v 48)) + x1)) (s.f 43 (Int32.toNatClampNeg x1)))) (w2 := (mwS cB cI cJ cZ h a s7)) C hK hP hD hS 31 1 rfl rfl (vpb_in g6) dX11_records_76 rfl (mwS_f49 hs8) (fun H locs hP hD hS => ?_)
    refine lv_iinc (v := (x1 + 1)) (lv' := [(1, .int (x1 + 1)), (0, .ref h)]) hx hb dX11_records_77 hl (k := 1) rfl (rfl) (by decide) rfl (fun ls hl => ?_)
    refine lv_goto (tgt := 51) hx hb dX11_records_80 (by decide) ?_
    exact hk51 _ _ hB p e s0 m below meth c A E H locs ls hP hD hS (lv_sub hl [1, 0] rfl)
theorem br_records_51L {l : Launch} {dC : Nat → ClassId} {dI : Nat → Nat → Nat} {cB cI cJ cZ cS : ClassId} {h : Nat} {a : Nat → Nat} {as : List Value} {s' : RS} : ∀ (n : Nat) (s : RS) (x1 : Int32), r_records_51L n s x1 = some s' → BlkV l yX11_records wsX11_records ({ frames := 1, cells := 0, slots := 0, locals := 21 }) cX11_records 2 none (dC, dI) (tysA cB cI cJ cZ cS) as 51 (mwS cB cI cJ cZ h a s) [(0, .ref h), (1, .int x1)] [] (fun u => u = (mwS cB cI cJ cZ h a s')) := by
  intro n
  induction n with
  | zero => intro s x1 hB; exact none_ne hB
  | succ n ih => intro s x1 hB; exact br_records_51 ih _ _ hB
set_option maxHeartbeats 4000000 in
set_option maxRecDepth 100000 in
theorem br_records_49 {l : Launch} {dC : Nat → ClassId} {dI : Nat → Nat → Nat} {cB cI cJ cZ cS : ClassId} {h : Nat} {a : Nat → Nat} {as : List Value} {s' : RS} (s : RS) (hB : r_records_49 s = some s') : BlkV l yX11_records wsX11_records ({ frames := 1, cells := 0, slots := 0, locals := 21 }) cX11_records 2 none (dC, dI) (tysA cB cI cJ cZ cS) as 49 (mwS cB cI cJ cZ h a s) [(0, .ref h)] [] (fun u => u = (mwS cB cI cJ cZ h a s')) := by
  intro p e s0 m below meth c A E H locs ls hP hD hS hl
  obtain ⟨C, hr, hlocks, hA, hK, hN⟩ := id E
  obtain ⟨hx, hb, hml, hown, hts⟩ := id C
  unfold r_records_49 at hB
  refine lv_iconst (v := 0) hx hb dX11_records_49 (by decide) ?_
  refine lv_istore_n (lv' := [(1, .int 0), (0, .ref h)]) hx hb dX11_records_50 rfl hl (by decide) rfl (fun ls hl => ?_)
  exact br_records_51L fu _ _ hB p e s0 m below meth c A E H locs ls hP hD hS (lv_sub hl [1, 0] rfl)
set_option maxHeartbeats 4000000 in
set_option maxRecDepth 100000 in
theorem br_records_11 {l : Launch} {dC : Nat → ClassId} {dI : Nat → Nat → Nat} {cB cI cJ cZ cS : ClassId} {h : Nat} {a : Nat → Nat} {as : List Value} {s' : RS} {k11 : RS → Int32 → Option RS} (hk11 : ∀ (s : RS) (x1 : Int32), k11 s x1 = some s' → BlkV l yX11_records wsX11_records ({ frames := 1, cells := 0, slots := 0, locals := 21 }) cX11_records 2 none (dC, dI) (tysA cB cI cJ cZ cS) as 11 (mwS cB cI cJ cZ h a s) [(0, .ref h), (1, .int x1)] [] (fun u => u = (mwS cB cI cJ cZ h a s'))) (s : RS) (x1 : Int32) (hB : r_records_11 k11 s x1 = some s') : BlkV l yX11_records wsX11_records ({ frames := 1, cells := 0, slots := 0, locals := 21 }) cX11_records 2 none (dC, dI) (tysA cB cI cJ cZ cS) as 11 (mwS cB cI cJ cZ h a s) [(0, .ref h), (1, .int x1)] [] (fun u => u = (mwS cB cI cJ cZ h a s')) := by
  intro p e s0 m below meth c A E H locs ls hP hD hS hl
  obtain ⟨C, hr, hlocks, hA, hK, hN⟩ := id E
  obtain ⟨hx, hb, hml, hown, hts⟩ := id C
  unfold r_records_11 at hB
  refine lv_iload_n hx hb dX11_records_11 rfl (lv_at hl 1 rfl) ?_
  refine lv_sipush (v := 1131) hx hb dX11_records_12 (by decide) ?_
  refine lv_icmp_ge (tgt := 39) hx hb dX11_records_15 (by decide) (fun c1 => ?_) (fun c1 => ?_)
  · have hB := if_p hB c1
    refine lv_aload_n hx hb dX11_records_39 rfl (lv_at hl 0 rfl) ?_
    refine lv_dup hx hb dX11_records_40 rfl ?_
    refine q_get (v := .int (s.v 48)) C inX11_records_X11 hK hP 0 rfl rfl 48 (by decide) rfl LX11_records_230 rfl dX11_records_41 ?_
    refine lv_iconst (v := 1) hx hb dX11_records_44 (by decide) ?_
    refine lv_isub hx hb dX11_records_45 ?_
    obtain ⟨s2, hs3, hB⟩ := letS_inv hB
    refine q_put (ty := .int) (w2 := (mwS cB cI cJ cZ h a s2)) tyX11 tyX11_ok nmX11 C inX11_records_X11 hK hP hD hS 0 rfl rfl 48 (by decide) rfl LX11_records_230 rfl (by decide +kernel) (rfl) rfl (Nat.le_of_ble_eq_true rfl) dX11_records_46 (mwS_v48 hs3) (fun H locs hP hD hS => ?_)
    exact br_records_49 _ hB p e s0 m below meth c A E H locs ls hP hD hS (lv_sub hl [0] rfl)
  · have hB := if_n hB c1
    refine lv_aload_n hx hb dX11_records_18 rfl (lv_at hl 0 rfl) ?_
    refine q_get (v := .ref (a 49)) C inX11_records_X11 hK hP 0 rfl rfl 49 (by decide) rfl LX11_records_110 rfl dX11_records_19 ?_
    refine lv_iload_n hx hb dX11_records_22 rfl (lv_at hl 1 rfl) ?_
    refine lv_aload_n hx hb dX11_records_23 rfl (lv_at hl 0 rfl) ?_
    refine q_get (v := .ref (a 49)) C inX11_records_X11 hK hP 0 rfl rfl 49 (by decide) rfl LX11_records_110 rfl dX11_records_24 ?_
    refine lv_iload_n hx hb dX11_records_27 rfl (lv_at hl 1 rfl) ?_
    refine lv_bipush (v := 29) hx hb dX11_records_28 (by decide) ?_
    refine lv_iadd hx hb dX11_records_30 ?_
    obtain ⟨g4, hB⟩ := guard_inv hB
    refine q_iald (x := (s.f 49 (Int32.toNatClampNeg (x1 + 29)))) C hK hP 31 1 rfl rfl (vpb_in g4) dX11_records_31 rfl ?_
    obtain ⟨g5, hB⟩ := guard_inv hB
    obtain ⟨s6, hs7, hB⟩ := letS_inv hB
    refine q_iast (f2 := (upd (s.f 49) (Int32.toNatClampNeg x1) (s.f 49 (Int32.toNatClampNeg (x1 + 29))))) (w2 := (mwS cB cI cJ cZ h a s6)) C hK hP hD hS 31 1 rfl rfl (vpb_in g5) dX11_records_32 rfl (mwS_f49 hs7) (fun H locs hP hD hS => ?_)
    refine lv_iinc (v := (x1 + 1)) (lv' := [(1, .int (x1 + 1)), (0, .ref h)]) hx hb dX11_records_33 hl (k := 1) rfl (rfl) (by decide) rfl (fun ls hl => ?_)
    refine lv_goto (tgt := 11) hx hb dX11_records_36 (by decide) ?_
    exact hk11 _ _ hB p e s0 m below meth c A E H locs ls hP hD hS (lv_sub hl [1, 0] rfl)
theorem br_records_11L {l : Launch} {dC : Nat → ClassId} {dI : Nat → Nat → Nat} {cB cI cJ cZ cS : ClassId} {h : Nat} {a : Nat → Nat} {as : List Value} {s' : RS} : ∀ (n : Nat) (s : RS) (x1 : Int32), r_records_11L n s x1 = some s' → BlkV l yX11_records wsX11_records ({ frames := 1, cells := 0, slots := 0, locals := 21 }) cX11_records 2 none (dC, dI) (tysA cB cI cJ cZ cS) as 11 (mwS cB cI cJ cZ h a s) [(0, .ref h), (1, .int x1)] [] (fun u => u = (mwS cB cI cJ cZ h a s')) := by
  intro n
  induction n with
  | zero => intro s x1 hB; exact none_ne hB
  | succ n ih => intro s x1 hB; exact br_records_11 ih _ _ hB
set_option maxHeartbeats 4000000 in
set_option maxRecDepth 100000 in
theorem br_records {l : Launch} {dC : Nat → ClassId} {dI : Nat → Nat → Nat} {cB cI cJ cZ cS : ClassId} {h : Nat} {a : Nat → Nat} {as : List Value} {s' : RS} (s : RS) (hB : r_records s = some s') : BlkV l yX11_records wsX11_records ({ frames := 1, cells := 0, slots := 0, locals := 21 }) cX11_records 2 none (dC, dI) (tysA cB cI cJ cZ cS) as 0 (mwS cB cI cJ cZ h a s) [(0, .ref h)] [] (fun u => u = (mwS cB cI cJ cZ h a s')) := by
  intro p e s0 m below meth c A E H locs ls hP hD hS hl
  obtain ⟨C, hr, hlocks, hA, hK, hN⟩ := id E
  obtain ⟨hx, hb, hml, hown, hts⟩ := id C
  unfold r_records at hB
  refine lv_aload_n hx hb dX11_records_0 rfl (lv_at hl 0 rfl) ?_
  refine q_get (v := .int (s.v 48)) C inX11_records_X11 hK hP 0 rfl rfl 48 (by decide) rfl LX11_records_230 rfl dX11_records_1 ?_
  refine lv_bipush (v := 40) hx hb dX11_records_4 (by decide) ?_
  refine lv_icmp_ne (tgt := 49) hx hb dX11_records_6 (by decide) (fun c1 => ?_) (fun c1 => ?_)
  · have hB := if_n hB c1
    exact br_records_49 _ hB p e s0 m below meth c A E H locs ls hP hD hS (lv_sub hl [0] rfl)
  · have hB := if_p hB c1
    refine lv_iconst (v := 0) hx hb dX11_records_9 (by decide) ?_
    refine lv_istore_n (lv' := [(1, .int 0), (0, .ref h)]) hx hb dX11_records_10 rfl hl (by decide) rfl (fun ls hl => ?_)
    exact br_records_11L fu _ _ hB p e s0 m below meth c A E H locs ls hP hD hS (lv_sub hl [1, 0] rfl)
theorem cr_records {l : Launch} {dC : Nat → ClassId} {dI : Nat → Nat → Nat} {cB cI cJ cZ cS : ClassId} {h : Nat} {a : Nat → Nat} {s' : RS} {s : RS} (hB : r_records s = some s') : CV l yX11_records wsX11_records ({ frames := 1, cells := 0, slots := 0, locals := 21 }) (dC, dI) (tysA cB cI cJ cZ cS) (mwS cB cI cJ cZ h a s) [.ref h] (fun u => u = (mwS cB cI cJ cZ h a s')) :=
  CV_of (cc := cX11_records) (maxL := 2) (ret := none) (by decide) rfl (Nat.le_of_ble_eq_true rfl) (br_records _ hB)
theorem LX11_isHere_98 : Cond.fieldLink RX11 98 "GuessFerryModel" "now" "[I" ∈ wsX11_isHere := by decide +kernel
theorem inX11_isHere_X11 : ∀ w ∈ u_ws RX11 TX11 58, w ∈ wsX11_isHere := fun _ h => List.mem_cons_of_mem _ (List.mem_append_right _ h)
set_option maxHeartbeats 4000000 in
set_option maxRecDepth 100000 in
theorem br_isHere {l : Launch} {dC : Nat → ClassId} {dI : Nat → Nat → Nat} {cB cI cJ cZ cS : ClassId} {h : Nat} {a : Nat → Nat} {as : List Value} {r : Int32} {s' : RS} (s : RS) (x1 : Int32) (hB : r_isHere s x1 = some (r, s')) : BlkI l yX11_isHere wsX11_isHere ({ frames := 2, cells := 0, slots := 0, locals := 43 }) cX11_isHere 2 (some .boolean) (dC, dI) (tysA cB cI cJ cZ cS) as 0 (mwS cB cI cJ cZ h a s) [(0, .ref h), (1, .int x1)] [] (fun x u => x = r ∧ u = (mwS cB cI cJ cZ h a s')) := by
  intro p e s0 m below meth c A E H locs ls hP hD hS hl
  obtain ⟨C, hr, hlocks, hA, hK, hN⟩ := id E
  obtain ⟨hx, hb, hml, hown, hts⟩ := id C
  unfold r_isHere at hB
  refine lv_aload_n hx hb dX11_isHere_0 rfl (lv_at hl 0 rfl) ?_
  refine lv_iload_n hx hb dX11_isHere_1 rfl (lv_at hl 1 rfl) ?_
  obtain ⟨q_, s1, hc, hB⟩ := bindI_inv hB
  refine q_goiF (va_runV (As := [.int x1]) (rest := []) C (cr_isParty hc _) (cwV 1 hts gX11_isHere_X11_isParty rfl rfl rfl (by decide +kernel) ⟨Nat.le_of_ble_eq_true rfl, Nat.le_of_ble_eq_true rfl⟩) (q_preV hK hP (ci := 11) (q0 := 0) rfl rfl rfl (q_preF hN hK hP hD)) rfl rfl hl.1 rfl (lv_room (Nat.le_of_ble_eq_true rfl)) dX11_isHere_2 ⟨Nat.le_of_ble_eq_true rfl, Nat.le_of_ble_eq_true rfl⟩) hD hS hA (fun r2 w1 H locs hw hP hD hS => ?_)
  obtain ⟨hq_, hw⟩ := hw; subst hw; subst hq_
  refine lv_if_eq (tgt := 24) hx hb dX11_isHere_5 (by decide) (fun c3 => ?_) (fun c3 => ?_)
  · have hB := if_p hB c3
    refine lv_iconst (v := 0) hx hb dX11_isHere_24 (by decide) ?_
    exact q_zret C hr hlocks (Or.inl rfl) hK hP hD hS (Nat.le_of_ble_eq_true rfl) (Nat.le_of_ble_eq_true rfl) dX11_isHere_25 (by cases hB; exact ⟨rfl, rfl⟩)
  · have hB := if_n hB c3
    refine lv_aload_n hx hb dX11_isHere_8 rfl (lv_at hl 0 rfl) ?_
    refine q_get (v := .ref (a 43)) C inX11_isHere_X11 hK hP 0 rfl rfl 43 (by decide) rfl LX11_isHere_98 rfl dX11_isHere_9 ?_
    refine lv_bipush (v := 15) hx hb dX11_isHere_12 (by decide) ?_
    refine lv_iload_n hx hb dX11_isHere_14 rfl (lv_at hl 1 rfl) ?_
    refine lv_iadd hx hb dX11_isHere_15 ?_
    obtain ⟨g4, hB⟩ := guard_inv hB
    refine q_iald (x := (s1.f 43 (Int32.toNatClampNeg (15 + x1)))) C hK hP 27 1 rfl rfl (vpb_in g4) dX11_isHere_16 rfl ?_
    refine lv_if_ne (tgt := 24) hx hb dX11_isHere_17 (by decide) (fun c5 => ?_) (fun c5 => ?_)
    · have hB := if_n hB c5
      refine lv_iconst (v := 0) hx hb dX11_isHere_24 (by decide) ?_
      exact q_zret C hr hlocks (Or.inl rfl) hK hP hD hS (Nat.le_of_ble_eq_true rfl) (Nat.le_of_ble_eq_true rfl) dX11_isHere_25 (by cases hB; exact ⟨rfl, rfl⟩)
    · have hB := if_p hB c5
      refine lv_iconst (v := 1) hx hb dX11_isHere_20 (by decide) ?_
      refine lv_goto (tgt := 25) hx hb dX11_isHere_21 (by decide) ?_
      exact q_zret C hr hlocks (Or.inr rfl) hK hP hD hS (Nat.le_of_ble_eq_true rfl) (Nat.le_of_ble_eq_true rfl) dX11_isHere_25 (by cases hB; exact ⟨rfl, rfl⟩)
theorem cr_isHere {l : Launch} {dC : Nat → ClassId} {dI : Nat → Nat → Nat} {cB cI cJ cZ cS : ClassId} {h : Nat} {a : Nat → Nat} {r : Int32} {s' : RS} {s : RS} {x1 : Int32} (hB : r_isHere s x1 = some (r, s')) : CI l yX11_isHere wsX11_isHere ({ frames := 2, cells := 0, slots := 0, locals := 43 }) (dC, dI) (tysA cB cI cJ cZ cS) (mwS cB cI cJ cZ h a s) [.ref h, .int x1] (fun x u => x = r ∧ u = (mwS cB cI cJ cZ h a s')) :=
  CI_of (cc := cX11_isHere) (maxL := 2) (ret := (some .boolean)) (by decide) rfl (Nat.le_of_ble_eq_true rfl) (br_isHere _ _ hB)
theorem LX11_go_215 : Cond.fieldLink RX11 215 "GuessFerryModel" "live" "I" ∈ wsX11_go := by decide +kernel
theorem LX11_go_40 : Cond.fieldLink RX11 40 "GuessFerryModel" "waves" "[I" ∈ wsX11_go := by decide +kernel
theorem inX11_go_X11 : ∀ w ∈ u_ws RX11 TX11 58, w ∈ wsX11_go := by decide +kernel
set_option maxHeartbeats 4000000 in
set_option maxRecDepth 100000 in
theorem br_go {l : Launch} {dC : Nat → ClassId} {dI : Nat → Nat → Nat} {cB cI cJ cZ cS : ClassId} {h : Nat} {a : Nat → Nat} {as : List Value} {r : Int32} {s' : RS} (s : RS) (x1 : Int32) (x2 : Int32) (hB : r_go s x1 x2 = some (r, s')) : BlkI l yX11_go wsX11_go ({ frames := 7, cells := 0, slots := 0, locals := 161 }) cX11_go 4 (some .int) (dC, dI) (tysA cB cI cJ cZ cS) as 0 (mwS cB cI cJ cZ h a s) [(0, .ref h), (1, .int x1), (2, .int x2)] [] (fun x u => x = r ∧ u = (mwS cB cI cJ cZ h a s')) := by
  intro p e s0 m below meth c A E H locs ls hP hD hS hl
  obtain ⟨C, hr, hlocks, hA, hK, hN⟩ := id E
  obtain ⟨hx, hb, hml, hown, hts⟩ := id C
  unfold r_go at hB
  refine lv_aload_n hx hb dX11_go_0 rfl (lv_at hl 0 rfl) ?_
  refine lv_iload_n hx hb dX11_go_1 rfl (lv_at hl 1 rfl) ?_
  obtain ⟨q_, s1, hc, hB⟩ := bindI_inv hB
  refine q_goiF (va_runV (As := [.int x1]) (rest := []) C (cr_isHere hc _) (cwV 1 hts gX11_go_X11_isHere rfl rfl rfl (by decide +kernel) ⟨Nat.le_of_ble_eq_true rfl, Nat.le_of_ble_eq_true rfl⟩) (q_preV hK hP (ci := 11) (q0 := 0) rfl rfl rfl (q_preF hN hK hP hD)) rfl rfl hl.1 rfl (lv_room (Nat.le_of_ble_eq_true rfl)) dX11_go_2 ⟨Nat.le_of_ble_eq_true rfl, Nat.le_of_ble_eq_true rfl⟩) hD hS hA (fun r2 w1 H locs hw hP hD hS => ?_)
  obtain ⟨hq_, hw⟩ := hw; subst hw; subst hq_
  refine lv_if_eq (tgt := 28) hx hb dX11_go_5 (by decide) (fun c3 => ?_) (fun c3 => ?_)
  · have hB := if_p hB c3
    refine lv_iconst (v := (-1)) hx hb dX11_go_28 (by decide) ?_
    exact q_iret C hr hlocks hK hP hD hS (Nat.le_of_ble_eq_true rfl) (Nat.le_of_ble_eq_true rfl) dX11_go_29 (by cases hB; exact ⟨rfl, rfl⟩)
  · have hB := if_n hB c3
    refine lv_aload_n hx hb dX11_go_8 rfl (lv_at hl 0 rfl) ?_
    refine q_get (v := .ref (a 20)) C inX11_go_X11 hK hP 0 rfl rfl 20 (by decide) rfl LX11_go_40 rfl dX11_go_9 ?_
    refine lv_aload_n hx hb dX11_go_12 rfl (lv_at hl 0 rfl) ?_
    refine q_get (v := .int (s1.v 18)) C inX11_go_X11 hK hP 0 rfl rfl 18 (by decide) rfl LX11_go_215 rfl dX11_go_13 ?_
    obtain ⟨g4, hB⟩ := guard_inv hB
    refine q_iald (x := (s1.f 20 (Int32.toNatClampNeg (s1.v 18)))) C hK hP 8 1 rfl rfl (vpb_in g4) dX11_go_16 rfl ?_
    refine lv_if_eq (tgt := 28) hx hb dX11_go_17 (by decide) (fun c5 => ?_) (fun c5 => ?_)
    · have hB := if_p hB c5
      refine lv_iconst (v := (-1)) hx hb dX11_go_28 (by decide) ?_
      exact q_iret C hr hlocks hK hP hD hS (Nat.le_of_ble_eq_true rfl) (Nat.le_of_ble_eq_true rfl) dX11_go_29 (by cases hB; exact ⟨rfl, rfl⟩)
    · have hB := if_n hB c5
      refine lv_aload_n hx hb dX11_go_20 rfl (lv_at hl 0 rfl) ?_
      refine lv_iload_n hx hb dX11_go_21 rfl (lv_at hl 2 rfl) ?_
      obtain ⟨q_, s6, hc, hB⟩ := bindI_inv hB
      refine q_goiF (va_runV (As := [.int x2]) (rest := []) C (cr_isGuess hc _) (cwV 1 hts gX11_go_X11_isGuess rfl rfl rfl (by decide +kernel) ⟨Nat.le_of_ble_eq_true rfl, Nat.le_of_ble_eq_true rfl⟩) (q_preV hK hP (ci := 11) (q0 := 0) rfl rfl rfl (q_preF hN hK hP hD)) rfl rfl hl.1 rfl (lv_room (Nat.le_of_ble_eq_true rfl)) dX11_go_22 ⟨Nat.le_of_ble_eq_true rfl, Nat.le_of_ble_eq_true rfl⟩) hD hS hA (fun r7 w1 H locs hw hP hD hS => ?_)
      obtain ⟨hq_, hw⟩ := hw; subst hw; subst hq_
      refine lv_if_ne (tgt := 30) hx hb dX11_go_25 (by decide) (fun c8 => ?_) (fun c8 => ?_)
      · have hB := if_n hB c8
        refine lv_aload_n hx hb dX11_go_30 rfl (lv_at hl 0 rfl) ?_
        obtain ⟨s9, hc, hB⟩ := bindP_inv hB
        refine q_govF (va_runV (As := []) (rest := []) C (cr_copies hc _) (cwV 0 hts gX11_go_X11_copies rfl rfl rfl (by decide +kernel) ⟨Nat.le_of_ble_eq_true rfl, Nat.le_of_ble_eq_true rfl⟩) (q_preV hK hP (ci := 11) (q0 := 0) rfl rfl rfl (q_preF hN hK hP hD)) rfl rfl hl.1 rfl (lv_room (Nat.le_of_ble_eq_true rfl)) dX11_go_31 ⟨Nat.le_of_ble_eq_true rfl, Nat.le_of_ble_eq_true rfl⟩) hD hS hA (fun w1 H locs hw hP hD hS => ?_)
        subst hw
        refine lv_aload_n hx hb dX11_go_34 rfl (lv_at hl 0 rfl) ?_
        refine lv_iload_n hx hb dX11_go_35 rfl (lv_at hl 1 rfl) ?_
        refine lv_iload_n hx hb dX11_go_36 rfl (lv_at hl 2 rfl) ?_
        refine lv_aload_n hx hb dX11_go_37 rfl (lv_at hl 0 rfl) ?_
        obtain ⟨q_, s10, hc, hB⟩ := bindI_inv hB
        refine q_goiF (va_runV (As := []) (rest := [.int x2, .int x1, .ref h]) C (cr_thereNumber hc _) (cwV 0 hts gX11_go_X11_thereNumber rfl rfl rfl (by decide +kernel) ⟨Nat.le_of_ble_eq_true rfl, Nat.le_of_ble_eq_true rfl⟩) (q_preV hK hP (ci := 11) (q0 := 0) rfl rfl rfl (q_preF hN hK hP hD)) rfl rfl hl.1 rfl (lv_room (Nat.le_of_ble_eq_true rfl)) dX11_go_38 ⟨Nat.le_of_ble_eq_true rfl, Nat.le_of_ble_eq_true rfl⟩) hD hS hA (fun r11 w1 H locs hw hP hD hS => ?_)
        obtain ⟨hq_, hw⟩ := hw; subst hw; subst hq_
        obtain ⟨q_, s12, hc, hB⟩ := bindI_inv hB
        refine q_goiF (va_runV (As := [.int x1, .int x2, .int r11]) (rest := []) C (cr_goesBy hc _) (cwV 3 hts gX11_go_X11_goesBy rfl rfl rfl (by decide +kernel) ⟨Nat.le_of_ble_eq_true rfl, Nat.le_of_ble_eq_true rfl⟩) (q_preV hK hP (ci := 11) (q0 := 0) rfl rfl rfl (q_preF hN hK hP hD)) rfl rfl hl.1 rfl (lv_room (Nat.le_of_ble_eq_true rfl)) dX11_go_41 ⟨Nat.le_of_ble_eq_true rfl, Nat.le_of_ble_eq_true rfl⟩) hD hS hA (fun r13 w1 H locs hw hP hD hS => ?_)
        obtain ⟨hq_, hw⟩ := hw; subst hw; subst hq_
        refine lv_istore_n (lv' := [(3, .int r13), (0, .ref h), (1, .int x1), (2, .int x2)]) hx hb dX11_go_44 rfl hl (by decide) rfl (fun ls hl => ?_)
        refine lv_aload_n hx hb dX11_go_45 rfl (lv_at hl 1 rfl) ?_
        obtain ⟨s14, hc, hB⟩ := bindP_inv hB
        refine q_govF (va_runV (As := []) (rest := []) C (cr_records hc _) (cwV 0 hts gX11_go_X11_records rfl rfl rfl (by decide +kernel) ⟨Nat.le_of_ble_eq_true rfl, Nat.le_of_ble_eq_true rfl⟩) (q_preV hK hP (ci := 11) (q0 := 0) rfl rfl rfl (q_preF hN hK hP hD)) rfl rfl hl.1 rfl (lv_room (Nat.le_of_ble_eq_true rfl)) dX11_go_46 ⟨Nat.le_of_ble_eq_true rfl, Nat.le_of_ble_eq_true rfl⟩) hD hS hA (fun w1 H locs hw hP hD hS => ?_)
        subst hw
        refine lv_iload_n hx hb dX11_go_49 rfl (lv_at hl 0 rfl) ?_
        exact q_iret C hr hlocks hK hP hD hS (Nat.le_of_ble_eq_true rfl) (Nat.le_of_ble_eq_true rfl) dX11_go_50 (by cases hB; exact ⟨rfl, rfl⟩)
      · have hB := if_p hB c8
        refine lv_iconst (v := (-1)) hx hb dX11_go_28 (by decide) ?_
        exact q_iret C hr hlocks hK hP hD hS (Nat.le_of_ble_eq_true rfl) (Nat.le_of_ble_eq_true rfl) dX11_go_29 (by cases hB; exact ⟨rfl, rfl⟩)
theorem cr_go {l : Launch} {dC : Nat → ClassId} {dI : Nat → Nat → Nat} {cB cI cJ cZ cS : ClassId} {h : Nat} {a : Nat → Nat} {r : Int32} {s' : RS} {s : RS} {x1 : Int32} {x2 : Int32} (hB : r_go s x1 x2 = some (r, s')) : CI l yX11_go wsX11_go ({ frames := 7, cells := 0, slots := 0, locals := 161 }) (dC, dI) (tysA cB cI cJ cZ cS) (mwS cB cI cJ cZ h a s) [.ref h, .int x1, .int x2] (fun x u => x = r ∧ u = (mwS cB cI cJ cZ h a s')) :=
  CI_of (cc := cX11_go) (maxL := 4) (ret := (some .int)) (by decide) rfl (Nat.le_of_ble_eq_true rfl) (br_go _ _ _ hB)
theorem LX11_buoy_101 : Cond.fieldLink RX11 101 "GuessFerryModel" "row" "[I" ∈ wsX11_buoy := by decide +kernel
theorem LX11_buoy_98 : Cond.fieldLink RX11 98 "GuessFerryModel" "now" "[I" ∈ wsX11_buoy := by decide +kernel
theorem inX11_buoy_X11 : ∀ w ∈ u_ws RX11 TX11 58, w ∈ wsX11_buoy := by decide +kernel
set_option maxHeartbeats 4000000 in
set_option maxRecDepth 100000 in
theorem br_buoy_34 {l : Launch} {dC : Nat → ClassId} {dI : Nat → Nat → Nat} {cB cI cJ cZ cS : ClassId} {h : Nat} {a : Nat → Nat} {as : List Value} {r : Int32} {s' : RS} (s : RS) (x1 : Int32) (x2 : Int32) (x3 : Int32) (t0 : Int32) (hB : r_buoy_34 s x1 x2 x3 t0 = some (r, s')) : BlkI l yX11_buoy wsX11_buoy ({ frames := 2, cells := 0, slots := 0, locals := 43 }) cX11_buoy 4 (some .boolean) (dC, dI) (tysA cB cI cJ cZ cS) as 34 (mwS cB cI cJ cZ h a s) [(0, .ref h), (1, .int x1), (2, .int x2), (3, .int x3)] [.int t0] (fun x u => x = r ∧ u = (mwS cB cI cJ cZ h a s')) := by
  intro p e s0 m below meth c A E H locs ls hP hD hS hl
  obtain ⟨C, hr, hlocks, hA, hK, hN⟩ := id E
  obtain ⟨hx, hb, hml, hown, hts⟩ := id C
  unfold r_buoy_34 at hB
  refine lv_iload_n hx hb dX11_buoy_34 rfl (lv_at hl 3 rfl) ?_
  refine lv_icmp_ne (tgt := 40) hx hb dX11_buoy_35 (by decide) (fun c1 => ?_) (fun c1 => ?_)
  · have hB := if_n hB c1
    refine lv_aload_n hx hb dX11_buoy_40 rfl (lv_at hl 0 rfl) ?_
    obtain ⟨s2, hc, hB⟩ := bindP_inv hB
    refine q_govF (va_runV (As := []) (rest := []) C (cr_copies hc _) (cwV 0 hts gX11_buoy_X11_copies rfl rfl rfl (by decide +kernel) ⟨Nat.le_of_ble_eq_true rfl, Nat.le_of_ble_eq_true rfl⟩) (q_preV hK hP (ci := 11) (q0 := 0) rfl rfl rfl (q_preF hN hK hP hD)) rfl rfl hl.1 rfl (lv_room (Nat.le_of_ble_eq_true rfl)) dX11_buoy_41 ⟨Nat.le_of_ble_eq_true rfl, Nat.le_of_ble_eq_true rfl⟩) hD hS hA (fun w1 H locs hw hP hD hS => ?_)
    subst hw
    refine lv_aload_n hx hb dX11_buoy_44 rfl (lv_at hl 0 rfl) ?_
    refine q_get (v := .ref (a 44)) C inX11_buoy_X11 hK hP 0 rfl rfl 44 (by decide) rfl LX11_buoy_101 rfl dX11_buoy_45 ?_
    refine lv_iload_n hx hb dX11_buoy_48 rfl (lv_at hl 1 rfl) ?_
    refine lv_dup2_11 hx hb dX11_buoy_49 rfl rfl ?_
    obtain ⟨g3, hB⟩ := guard_inv hB
    refine q_iald (x := (s2.f 44 (Int32.toNatClampNeg x1))) C hK hP 28 1 rfl rfl (vpb_in g3) dX11_buoy_50 rfl ?_
    refine lv_iconst (v := 1) hx hb dX11_buoy_51 (by decide) ?_
    refine lv_iload_n hx hb dX11_buoy_52 rfl (lv_at hl 2 rfl) ?_
    refine lv_ishl hx hb dX11_buoy_53 ?_
    refine lv_ixor hx hb dX11_buoy_54 ?_
    obtain ⟨g4, hB⟩ := guard_inv hB
    obtain ⟨s5, hs6, hB⟩ := letS_inv hB
    refine q_iast (f2 := (upd (s2.f 44) (Int32.toNatClampNeg x1) ((s2.f 44 (Int32.toNatClampNeg x1)) ^^^ (1 <<< (x2 &&& 31))))) (w2 := (mwS cB cI cJ cZ h a s5)) C hK hP hD hS 28 1 rfl rfl (vpb_in g4) dX11_buoy_55 rfl (mwS_f44 hs6) (fun H locs hP hD hS => ?_)
    refine lv_aload_n hx hb dX11_buoy_56 rfl (lv_at hl 0 rfl) ?_
    obtain ⟨s7, hc, hB⟩ := bindP_inv hB
    refine q_govF (va_runV (As := []) (rest := []) C (cr_records hc _) (cwV 0 hts gX11_buoy_X11_records rfl rfl rfl (by decide +kernel) ⟨Nat.le_of_ble_eq_true rfl, Nat.le_of_ble_eq_true rfl⟩) (q_preV hK hP (ci := 11) (q0 := 0) rfl rfl rfl (q_preF hN hK hP hD)) rfl rfl hl.1 rfl (lv_room (Nat.le_of_ble_eq_true rfl)) dX11_buoy_57 ⟨Nat.le_of_ble_eq_true rfl, Nat.le_of_ble_eq_true rfl⟩) hD hS hA (fun w1 H locs hw hP hD hS => ?_)
    subst hw
    refine lv_iconst (v := 1) hx hb dX11_buoy_60 (by decide) ?_
    exact q_zret C hr hlocks (Or.inr rfl) hK hP hD hS (Nat.le_of_ble_eq_true rfl) (Nat.le_of_ble_eq_true rfl) dX11_buoy_61 (by cases hB; exact ⟨rfl, rfl⟩)
  · have hB := if_p hB c1
    refine lv_iconst (v := 0) hx hb dX11_buoy_38 (by decide) ?_
    exact q_zret C hr hlocks (Or.inl rfl) hK hP hD hS (Nat.le_of_ble_eq_true rfl) (Nat.le_of_ble_eq_true rfl) dX11_buoy_39 (by cases hB; exact ⟨rfl, rfl⟩)
set_option maxHeartbeats 4000000 in
set_option maxRecDepth 100000 in
theorem br_buoy {l : Launch} {dC : Nat → ClassId} {dI : Nat → Nat → Nat} {cB cI cJ cZ cS : ClassId} {h : Nat} {a : Nat → Nat} {as : List Value} {r : Int32} {s' : RS} (s : RS) (x1 : Int32) (x2 : Int32) (x3 : Int32) (hB : r_buoy s x1 x2 x3 = some (r, s')) : BlkI l yX11_buoy wsX11_buoy ({ frames := 2, cells := 0, slots := 0, locals := 43 }) cX11_buoy 4 (some .boolean) (dC, dI) (tysA cB cI cJ cZ cS) as 0 (mwS cB cI cJ cZ h a s) [(0, .ref h), (1, .int x1), (2, .int x2), (3, .int x3)] [] (fun x u => x = r ∧ u = (mwS cB cI cJ cZ h a s')) := by
  intro p e s0 m below meth c A E H locs ls hP hD hS hl
  obtain ⟨C, hr, hlocks, hA, hK, hN⟩ := id E
  obtain ⟨hx, hb, hml, hown, hts⟩ := id C
  unfold r_buoy at hB
  refine lv_aload_n hx hb dX11_buoy_0 rfl (lv_at hl 0 rfl) ?_
  refine lv_iload_n hx hb dX11_buoy_1 rfl (lv_at hl 1 rfl) ?_
  obtain ⟨q_, s1, hc, hB⟩ := bindI_inv hB
  refine q_goiF (va_runV (As := [.int x1]) (rest := []) C (cr_isWave hc _) (cwV 1 hts gX11_buoy_X11_isWave rfl rfl rfl (by decide +kernel) ⟨Nat.le_of_ble_eq_true rfl, Nat.le_of_ble_eq_true rfl⟩) (q_preV hK hP (ci := 11) (q0 := 0) rfl rfl rfl (q_preF hN hK hP hD)) rfl rfl hl.1 rfl (lv_room (Nat.le_of_ble_eq_true rfl)) dX11_buoy_2 ⟨Nat.le_of_ble_eq_true rfl, Nat.le_of_ble_eq_true rfl⟩) hD hS hA (fun r2 w1 H locs hw hP hD hS => ?_)
  obtain ⟨hq_, hw⟩ := hw; subst hw; subst hq_
  refine lv_if_eq (tgt := 38) hx hb dX11_buoy_5 (by decide) (fun c3 => ?_) (fun c3 => ?_)
  · have hB := if_p hB c3
    refine lv_iconst (v := 0) hx hb dX11_buoy_38 (by decide) ?_
    exact q_zret C hr hlocks (Or.inl rfl) hK hP hD hS (Nat.le_of_ble_eq_true rfl) (Nat.le_of_ble_eq_true rfl) dX11_buoy_39 (by cases hB; exact ⟨rfl, rfl⟩)
  · have hB := if_n hB c3
    refine lv_iload_n hx hb dX11_buoy_8 rfl (lv_at hl 2 rfl) ?_
    obtain ⟨q_, hc, hB⟩ := bindP_inv hB
    refine q_goi0 (va_runS (As := [.int x2]) (rest := []) C (cr_isThing hc _) (va_cwS 1 hts gX11_buoy_X11_isThing rfl rfl rfl (by decide +kernel) ⟨Nat.le_of_ble_eq_true rfl, Nat.le_of_ble_eq_true rfl⟩) (q_pre0 hN hK) rfl rfl hl.1 rfl (lv_room (Nat.le_of_ble_eq_true rfl)) dX11_buoy_9 ⟨Nat.le_of_ble_eq_true rfl, Nat.le_of_ble_eq_true rfl⟩) hP hD hS hA (fun r4 w1 H locs hw hP hS => ?_)
    subst hw
    refine lv_if_eq (tgt := 38) hx hb dX11_buoy_12 (by decide) (fun c5 => ?_) (fun c5 => ?_)
    · have hB := if_p hB c5
      refine lv_iconst (v := 0) hx hb dX11_buoy_38 (by decide) ?_
      exact q_zret C hr hlocks (Or.inl rfl) hK hP hD hS (Nat.le_of_ble_eq_true rfl) (Nat.le_of_ble_eq_true rfl) dX11_buoy_39 (by cases hB; exact ⟨rfl, rfl⟩)
    · have hB := if_n hB c5
      refine lv_aload_n hx hb dX11_buoy_15 rfl (lv_at hl 0 rfl) ?_
      refine q_get (v := .ref (a 43)) C inX11_buoy_X11 hK hP 0 rfl rfl 43 (by decide) rfl LX11_buoy_98 rfl dX11_buoy_16 ?_
      refine lv_iload_n hx hb dX11_buoy_19 rfl (lv_at hl 1 rfl) ?_
      obtain ⟨g6, hB⟩ := guard_inv hB
      refine q_iald (x := (s1.f 43 (Int32.toNatClampNeg x1))) C hK hP 27 1 rfl rfl (vpb_in g6) dX11_buoy_20 rfl ?_
      refine lv_iload_n hx hb dX11_buoy_21 rfl (lv_at hl 2 rfl) ?_
      refine lv_ishr hx hb dX11_buoy_22 ?_
      refine lv_iconst (v := 1) hx hb dX11_buoy_23 (by decide) ?_
      refine lv_iand hx hb dX11_buoy_24 ?_
      refine lv_iconst (v := 1) hx hb dX11_buoy_25 (by decide) ?_
      refine lv_icmp_ne (tgt := 33) hx hb dX11_buoy_26 (by decide) (fun c7 => ?_) (fun c7 => ?_)
      · have hB := if_n hB c7
        refine lv_iconst (v := 0) hx hb dX11_buoy_33 (by decide) ?_
        exact br_buoy_34 _ _ _ _ _ hB p e s0 m below meth c A E H locs ls hP hD hS (lv_sub hl [0, 1, 2, 3] rfl)
      · have hB := if_p hB c7
        refine lv_iconst (v := 1) hx hb dX11_buoy_29 (by decide) ?_
        refine lv_goto (tgt := 34) hx hb dX11_buoy_30 (by decide) ?_
        exact br_buoy_34 _ _ _ _ _ hB p e s0 m below meth c A E H locs ls hP hD hS (lv_sub hl [0, 1, 2, 3] rfl)
theorem cr_buoy {l : Launch} {dC : Nat → ClassId} {dI : Nat → Nat → Nat} {cB cI cJ cZ cS : ClassId} {h : Nat} {a : Nat → Nat} {r : Int32} {s' : RS} {s : RS} {x1 : Int32} {x2 : Int32} {x3 : Int32} (hB : r_buoy s x1 x2 x3 = some (r, s')) : CI l yX11_buoy wsX11_buoy ({ frames := 2, cells := 0, slots := 0, locals := 43 }) (dC, dI) (tysA cB cI cJ cZ cS) (mwS cB cI cJ cZ h a s) [.ref h, .int x1, .int x2, .int x3] (fun x u => x = r ∧ u = (mwS cB cI cJ cZ h a s')) :=
  CI_of (cc := cX11_buoy) (maxL := 4) (ret := (some .boolean)) (by decide) rfl (Nat.le_of_ble_eq_true rfl) (br_buoy _ _ _ _ hB)
theorem LX11_fetch_101 : Cond.fieldLink RX11 101 "GuessFerryModel" "row" "[I" ∈ wsX11_fetch := by decide +kernel
theorem LX11_fetch_98 : Cond.fieldLink RX11 98 "GuessFerryModel" "now" "[I" ∈ wsX11_fetch := by decide +kernel
theorem inX11_fetch_X11 : ∀ w ∈ u_ws RX11 TX11 58, w ∈ wsX11_fetch := by decide +kernel
set_option maxHeartbeats 4000000 in
set_option maxRecDepth 100000 in
theorem br_fetch {l : Launch} {dC : Nat → ClassId} {dI : Nat → Nat → Nat} {cB cI cJ cZ cS : ClassId} {h : Nat} {a : Nat → Nat} {as : List Value} {r : Int32} {s' : RS} (s : RS) (x1 : Int32) (hB : r_fetch s x1 = some (r, s')) : BlkI l yX11_fetch wsX11_fetch ({ frames := 2, cells := 0, slots := 0, locals := 43 }) cX11_fetch 2 (some .boolean) (dC, dI) (tysA cB cI cJ cZ cS) as 0 (mwS cB cI cJ cZ h a s) [(0, .ref h), (1, .int x1)] [] (fun x u => x = r ∧ u = (mwS cB cI cJ cZ h a s')) := by
  intro p e s0 m below meth c A E H locs ls hP hD hS hl
  obtain ⟨C, hr, hlocks, hA, hK, hN⟩ := id E
  obtain ⟨hx, hb, hml, hown, hts⟩ := id C
  unfold r_fetch at hB
  refine lv_aload_n hx hb dX11_fetch_0 rfl (lv_at hl 0 rfl) ?_
  refine lv_iload_n hx hb dX11_fetch_1 rfl (lv_at hl 1 rfl) ?_
  obtain ⟨q_, s1, hc, hB⟩ := bindI_inv hB
  refine q_goiF (va_runV (As := [.int x1]) (rest := []) C (cr_isParty hc _) (cwV 1 hts gX11_fetch_X11_isParty rfl rfl rfl (by decide +kernel) ⟨Nat.le_of_ble_eq_true rfl, Nat.le_of_ble_eq_true rfl⟩) (q_preV hK hP (ci := 11) (q0 := 0) rfl rfl rfl (q_preF hN hK hP hD)) rfl rfl hl.1 rfl (lv_room (Nat.le_of_ble_eq_true rfl)) dX11_fetch_2 ⟨Nat.le_of_ble_eq_true rfl, Nat.le_of_ble_eq_true rfl⟩) hD hS hA (fun r2 w1 H locs hw hP hD hS => ?_)
  obtain ⟨hq_, hw⟩ := hw; subst hw; subst hq_
  refine lv_if_eq (tgt := 20) hx hb dX11_fetch_5 (by decide) (fun c3 => ?_) (fun c3 => ?_)
  · have hB := if_p hB c3
    refine lv_iconst (v := 0) hx hb dX11_fetch_20 (by decide) ?_
    exact q_zret C hr hlocks (Or.inl rfl) hK hP hD hS (Nat.le_of_ble_eq_true rfl) (Nat.le_of_ble_eq_true rfl) dX11_fetch_21 (by cases hB; exact ⟨rfl, rfl⟩)
  · have hB := if_n hB c3
    refine lv_aload_n hx hb dX11_fetch_8 rfl (lv_at hl 0 rfl) ?_
    refine q_get (v := .ref (a 43)) C inX11_fetch_X11 hK hP 0 rfl rfl 43 (by decide) rfl LX11_fetch_98 rfl dX11_fetch_9 ?_
    refine lv_bipush (v := 15) hx hb dX11_fetch_12 (by decide) ?_
    refine lv_iload_n hx hb dX11_fetch_14 rfl (lv_at hl 1 rfl) ?_
    refine lv_iadd hx hb dX11_fetch_15 ?_
    obtain ⟨g4, hB⟩ := guard_inv hB
    refine q_iald (x := (s1.f 43 (Int32.toNatClampNeg (15 + x1)))) C hK hP 27 1 rfl rfl (vpb_in g4) dX11_fetch_16 rfl ?_
    refine lv_if_ne (tgt := 22) hx hb dX11_fetch_17 (by decide) (fun c5 => ?_) (fun c5 => ?_)
    · have hB := if_n hB c5
      refine lv_aload_n hx hb dX11_fetch_22 rfl (lv_at hl 0 rfl) ?_
      obtain ⟨s6, hc, hB⟩ := bindP_inv hB
      refine q_govF (va_runV (As := []) (rest := []) C (cr_copies hc _) (cwV 0 hts gX11_fetch_X11_copies rfl rfl rfl (by decide +kernel) ⟨Nat.le_of_ble_eq_true rfl, Nat.le_of_ble_eq_true rfl⟩) (q_preV hK hP (ci := 11) (q0 := 0) rfl rfl rfl (q_preF hN hK hP hD)) rfl rfl hl.1 rfl (lv_room (Nat.le_of_ble_eq_true rfl)) dX11_fetch_23 ⟨Nat.le_of_ble_eq_true rfl, Nat.le_of_ble_eq_true rfl⟩) hD hS hA (fun w1 H locs hw hP hD hS => ?_)
      subst hw
      refine lv_aload_n hx hb dX11_fetch_26 rfl (lv_at hl 0 rfl) ?_
      refine q_get (v := .ref (a 44)) C inX11_fetch_X11 hK hP 0 rfl rfl 44 (by decide) rfl LX11_fetch_101 rfl dX11_fetch_27 ?_
      refine lv_bipush (v := 15) hx hb dX11_fetch_30 (by decide) ?_
      refine lv_iload_n hx hb dX11_fetch_32 rfl (lv_at hl 1 rfl) ?_
      refine lv_iadd hx hb dX11_fetch_33 ?_
      refine lv_iconst (v := 0) hx hb dX11_fetch_34 (by decide) ?_
      obtain ⟨g7, hB⟩ := guard_inv hB
      obtain ⟨s8, hs9, hB⟩ := letS_inv hB
      refine q_iast (f2 := (upd (s6.f 44) (Int32.toNatClampNeg (15 + x1)) 0)) (w2 := (mwS cB cI cJ cZ h a s8)) C hK hP hD hS 28 1 rfl rfl (vpb_in g7) dX11_fetch_35 rfl (mwS_f44 hs9) (fun H locs hP hD hS => ?_)
      refine lv_aload_n hx hb dX11_fetch_36 rfl (lv_at hl 0 rfl) ?_
      obtain ⟨s10, hc, hB⟩ := bindP_inv hB
      refine q_govF (va_runV (As := []) (rest := []) C (cr_records hc _) (cwV 0 hts gX11_fetch_X11_records rfl rfl rfl (by decide +kernel) ⟨Nat.le_of_ble_eq_true rfl, Nat.le_of_ble_eq_true rfl⟩) (q_preV hK hP (ci := 11) (q0 := 0) rfl rfl rfl (q_preF hN hK hP hD)) rfl rfl hl.1 rfl (lv_room (Nat.le_of_ble_eq_true rfl)) dX11_fetch_37 ⟨Nat.le_of_ble_eq_true rfl, Nat.le_of_ble_eq_true rfl⟩) hD hS hA (fun w1 H locs hw hP hD hS => ?_)
      subst hw
      refine lv_iconst (v := 1) hx hb dX11_fetch_40 (by decide) ?_
      exact q_zret C hr hlocks (Or.inr rfl) hK hP hD hS (Nat.le_of_ble_eq_true rfl) (Nat.le_of_ble_eq_true rfl) dX11_fetch_41 (by cases hB; exact ⟨rfl, rfl⟩)
    · have hB := if_p hB c5
      refine lv_iconst (v := 0) hx hb dX11_fetch_20 (by decide) ?_
      exact q_zret C hr hlocks (Or.inl rfl) hK hP hD hS (Nat.le_of_ble_eq_true rfl) (Nat.le_of_ble_eq_true rfl) dX11_fetch_21 (by cases hB; exact ⟨rfl, rfl⟩)
theorem cr_fetch {l : Launch} {dC : Nat → ClassId} {dI : Nat → Nat → Nat} {cB cI cJ cZ cS : ClassId} {h : Nat} {a : Nat → Nat} {r : Int32} {s' : RS} {s : RS} {x1 : Int32} (hB : r_fetch s x1 = some (r, s')) : CI l yX11_fetch wsX11_fetch ({ frames := 2, cells := 0, slots := 0, locals := 43 }) (dC, dI) (tysA cB cI cJ cZ cS) (mwS cB cI cJ cZ h a s) [.ref h, .int x1] (fun x u => x = r ∧ u = (mwS cB cI cJ cZ h a s')) :=
  CI_of (cc := cX11_fetch) (maxL := 2) (ret := (some .boolean)) (by decide) rfl (Nat.le_of_ble_eq_true rfl) (br_fetch _ _ hB)
set_option maxHeartbeats 4000000 in
set_option maxRecDepth 100000 in
theorem br_isLong {l : Launch} {dC : Nat → ClassId} {dI : Nat → Nat → Nat} {cB cI cJ cZ cS : ClassId} {as : List Value} {r : Int32} (x0 : Int32) (hB : r_isLong x0 = some r) : BlkI l yX11_isLong wsX11_isLong ({ frames := 1, cells := 0, slots := 0, locals := 22 }) cX11_isLong 1 (some .boolean) (dC, dI) (tysA cB cI cJ cZ cS) as 0 [] [(0, .int x0)] [] (fun x _ => x = r) := by
  intro p e s0 m below meth c A E H locs ls hP hD hS hl
  obtain ⟨C, hr, hlocks, hA, hK, hN⟩ := id E
  obtain ⟨hx, hb, hml, hown, hts⟩ := id C
  unfold r_isLong at hB
  refine lv_iload_n hx hb dX11_isLong_0 rfl (lv_at hl 0 rfl) ?_
  refine lv_iconst (v := 0) hx hb dX11_isLong_1 (by decide) ?_
  refine lv_bipush (v := 40) hx hb dX11_isLong_2 (by decide) ?_
  obtain ⟨q_, hc, hB⟩ := bindP_inv hB
  refine q_goi0 (va_runS (As := [.int x0, .int 0, .int 40]) (rest := []) C (cr_in hc _) (va_cwS 3 hts gX11_isLong_X11_in rfl rfl rfl (by decide +kernel) ⟨Nat.le_of_ble_eq_true rfl, Nat.le_of_ble_eq_true rfl⟩) (q_pre0 hN hK) rfl rfl hl.1 rfl (lv_room (Nat.le_of_ble_eq_true rfl)) dX11_isLong_4 ⟨Nat.le_of_ble_eq_true rfl, Nat.le_of_ble_eq_true rfl⟩) hP hD hS hA (fun r1 w1 H locs hw hP hS => ?_)
  subst hw
  obtain ⟨z2, hB⟩ := guard_inv hB
  exact q_zret C hr hlocks z2 hK hP hD hS (Nat.le_of_ble_eq_true rfl) (Nat.le_of_ble_eq_true rfl) dX11_isLong_7 (by cases hB; rfl)
theorem cr_isLong {l : Launch} {dC : Nat → ClassId} {dI : Nat → Nat → Nat} {cB cI cJ cZ cS : ClassId} {r : Int32} {x0 : Int32} (hB : r_isLong x0 = some r) : CI l yX11_isLong wsX11_isLong ({ frames := 1, cells := 0, slots := 0, locals := 22 }) (dC, dI) (tysA cB cI cJ cZ cS) [] [.int x0] (fun x _ => x = r) :=
  CI_of (cc := cX11_isLong) (maxL := 1) (ret := (some .boolean)) (by decide) rfl (Nat.le_of_ble_eq_true rfl) (br_isLong _ hB)
theorem LX11_years_98 : Cond.fieldLink RX11 98 "GuessFerryModel" "now" "[I" ∈ wsX11_years := by decide +kernel
theorem inX11_years_X11 : ∀ w ∈ u_ws RX11 TX11 58, w ∈ wsX11_years := by decide +kernel
set_option maxHeartbeats 4000000 in
set_option maxRecDepth 100000 in
theorem br_years {l : Launch} {dC : Nat → ClassId} {dI : Nat → Nat → Nat} {cB cI cJ cZ cS : ClassId} {h : Nat} {a : Nat → Nat} {as : List Value} {r : Int32} {s' : RS} (s : RS) (x1 : Int32) (hB : r_years s x1 = some (r, s')) : BlkI l yX11_years wsX11_years ({ frames := 6, cells := 0, slots := 0, locals := 130 }) cX11_years 2 (some .int) (dC, dI) (tysA cB cI cJ cZ cS) as 0 (mwS cB cI cJ cZ h a s) [(0, .ref h), (1, .int x1)] [] (fun x u => x = r ∧ u = (mwS cB cI cJ cZ h a s')) := by
  intro p e s0 m below meth c A E H locs ls hP hD hS hl
  obtain ⟨C, hr, hlocks, hA, hK, hN⟩ := id E
  obtain ⟨hx, hb, hml, hown, hts⟩ := id C
  unfold r_years at hB
  refine lv_iload_n hx hb dX11_years_0 rfl (lv_at hl 1 rfl) ?_
  obtain ⟨q_, hc, hB⟩ := bindP_inv hB
  refine q_goi0 (va_runS (As := [.int x1]) (rest := []) C (cr_isLong hc _) (va_cwS 1 hts gX11_years_X11_isLong rfl rfl rfl (by decide +kernel) ⟨Nat.le_of_ble_eq_true rfl, Nat.le_of_ble_eq_true rfl⟩) (q_pre0 hN hK) rfl rfl hl.1 rfl (lv_room (Nat.le_of_ble_eq_true rfl)) dX11_years_1 ⟨Nat.le_of_ble_eq_true rfl, Nat.le_of_ble_eq_true rfl⟩) hP hD hS hA (fun r1 w1 H locs hw hP hS => ?_)
  subst hw
  refine lv_if_ne (tgt := 9) hx hb dX11_years_4 (by decide) (fun c2 => ?_) (fun c2 => ?_)
  · have hB := if_n hB c2
    refine lv_iload_n hx hb dX11_years_9 rfl (lv_at hl 1 rfl) ?_
    refine lv_if_ne (tgt := 21) hx hb dX11_years_10 (by decide) (fun c3 => ?_) (fun c3 => ?_)
    · have hB := if_n hB c3
      refine lv_aload_n hx hb dX11_years_21 rfl (lv_at hl 0 rfl) ?_
      obtain ⟨s4, hc, hB⟩ := bindP_inv hB
      refine q_govF (va_runV (As := []) (rest := []) C (cr_copies hc _) (cwV 0 hts gX11_years_X11_copies rfl rfl rfl (by decide +kernel) ⟨Nat.le_of_ble_eq_true rfl, Nat.le_of_ble_eq_true rfl⟩) (q_preV hK hP (ci := 11) (q0 := 0) rfl rfl rfl (q_preF hN hK hP hD)) rfl rfl hl.1 rfl (lv_room (Nat.le_of_ble_eq_true rfl)) dX11_years_22 ⟨Nat.le_of_ble_eq_true rfl, Nat.le_of_ble_eq_true rfl⟩) hD hS hA (fun w1 H locs hw hP hD hS => ?_)
      subst hw
      refine lv_aload_n hx hb dX11_years_25 rfl (lv_at hl 0 rfl) ?_
      refine lv_iload_n hx hb dX11_years_26 rfl (lv_at hl 1 rfl) ?_
      obtain ⟨s5, hc, hB⟩ := bindP_inv hB
      refine q_govF (va_runV (As := [.int x1]) (rest := []) C (cr_yearsGo hc _) (cwV 1 hts gX11_years_X11_yearsGo rfl rfl rfl (by decide +kernel) ⟨Nat.le_of_ble_eq_true rfl, Nat.le_of_ble_eq_true rfl⟩) (q_preV hK hP (ci := 11) (q0 := 0) rfl rfl rfl (q_preF hN hK hP hD)) rfl rfl hl.1 rfl (lv_room (Nat.le_of_ble_eq_true rfl)) dX11_years_27 ⟨Nat.le_of_ble_eq_true rfl, Nat.le_of_ble_eq_true rfl⟩) hD hS hA (fun w1 H locs hw hP hD hS => ?_)
      subst hw
      refine lv_aload_n hx hb dX11_years_30 rfl (lv_at hl 0 rfl) ?_
      obtain ⟨s6, hc, hB⟩ := bindP_inv hB
      refine q_govF (va_runV (As := []) (rest := []) C (cr_records hc _) (cwV 0 hts gX11_years_X11_records rfl rfl rfl (by decide +kernel) ⟨Nat.le_of_ble_eq_true rfl, Nat.le_of_ble_eq_true rfl⟩) (q_preV hK hP (ci := 11) (q0 := 0) rfl rfl rfl (q_preF hN hK hP hD)) rfl rfl hl.1 rfl (lv_room (Nat.le_of_ble_eq_true rfl)) dX11_years_31 ⟨Nat.le_of_ble_eq_true rfl, Nat.le_of_ble_eq_true rfl⟩) hD hS hA (fun w1 H locs hw hP hD hS => ?_)
      subst hw
      refine lv_aload_n hx hb dX11_years_34 rfl (lv_at hl 0 rfl) ?_
      refine q_get (v := .ref (a 43)) C inX11_years_X11 hK hP 0 rfl rfl 43 (by decide) rfl LX11_years_98 rfl dX11_years_35 ?_
      refine lv_bipush (v := 27) hx hb dX11_years_38 (by decide) ?_
      refine q_iald (x := (s6.f 43 27)) C hK hP 27 1 rfl rfl (vp_lit (by decide +kernel)) dX11_years_40 rfl ?_
      exact q_iret C hr hlocks hK hP hD hS (Nat.le_of_ble_eq_true rfl) (Nat.le_of_ble_eq_true rfl) dX11_years_41 (by cases hB; exact ⟨rfl, rfl⟩)
    · have hB := if_p hB c3
      refine lv_aload_n hx hb dX11_years_13 rfl (lv_at hl 0 rfl) ?_
      refine q_get (v := .ref (a 43)) C inX11_years_X11 hK hP 0 rfl rfl 43 (by decide) rfl LX11_years_98 rfl dX11_years_14 ?_
      refine lv_bipush (v := 27) hx hb dX11_years_17 (by decide) ?_
      refine q_iald (x := (s.f 43 27)) C hK hP 27 1 rfl rfl (vp_lit (by decide +kernel)) dX11_years_19 rfl ?_
      exact q_iret C hr hlocks hK hP hD hS (Nat.le_of_ble_eq_true rfl) (Nat.le_of_ble_eq_true rfl) dX11_years_20 (by cases hB; exact ⟨rfl, rfl⟩)
  · have hB := if_p hB c2
    refine lv_iconst (v := (-1)) hx hb dX11_years_7 (by decide) ?_
    exact q_iret C hr hlocks hK hP hD hS (Nat.le_of_ble_eq_true rfl) (Nat.le_of_ble_eq_true rfl) dX11_years_8 (by cases hB; exact ⟨rfl, rfl⟩)
theorem cr_years {l : Launch} {dC : Nat → ClassId} {dI : Nat → Nat → Nat} {cB cI cJ cZ cS : ClassId} {h : Nat} {a : Nat → Nat} {r : Int32} {s' : RS} {s : RS} {x1 : Int32} (hB : r_years s x1 = some (r, s')) : CI l yX11_years wsX11_years ({ frames := 6, cells := 0, slots := 0, locals := 130 }) (dC, dI) (tysA cB cI cJ cZ cS) (mwS cB cI cJ cZ h a s) [.ref h, .int x1] (fun x u => x = r ∧ u = (mwS cB cI cJ cZ h a s')) :=
  CI_of (cc := cX11_years) (maxL := 2) (ret := (some .int)) (by decide) rfl (Nat.le_of_ble_eq_true rfl) (br_years _ _ hB)
theorem LX11_undo_110 : Cond.fieldLink RX11 110 "GuessFerryModel" "history" "[I" ∈ wsX11_undo := by decide +kernel
theorem LX11_undo_230 : Cond.fieldLink RX11 230 "GuessFerryModel" "undos" "I" ∈ wsX11_undo := by decide +kernel
theorem LX11_undo_98 : Cond.fieldLink RX11 98 "GuessFerryModel" "now" "[I" ∈ wsX11_undo := by decide +kernel
theorem inX11_undo_X11 : ∀ w ∈ u_ws RX11 TX11 58, w ∈ wsX11_undo := fun _ h => List.mem_cons_of_mem _ (List.mem_append_right _ h)
set_option maxHeartbeats 4000000 in
set_option maxRecDepth 100000 in
theorem br_undo_21 {l : Launch} {dC : Nat → ClassId} {dI : Nat → Nat → Nat} {cB cI cJ cZ cS : ClassId} {h : Nat} {a : Nat → Nat} {as : List Value} {r : Int32} {s' : RS} {k21 : RS → Int32 → Option (Int32 × RS)} (hk21 : ∀ (s : RS) (x1 : Int32), k21 s x1 = some (r, s') → BlkI l yX11_undo wsX11_undo ({ frames := 0, cells := 0, slots := 0, locals := 0 }) cX11_undo 2 (some .boolean) (dC, dI) (tysA cB cI cJ cZ cS) as 21 (mwS cB cI cJ cZ h a s) [(0, .ref h), (1, .int x1)] [] (fun x u => x = r ∧ u = (mwS cB cI cJ cZ h a s'))) (s : RS) (x1 : Int32) (hB : r_undo_21 k21 s x1 = some (r, s')) : BlkI l yX11_undo wsX11_undo ({ frames := 0, cells := 0, slots := 0, locals := 0 }) cX11_undo 2 (some .boolean) (dC, dI) (tysA cB cI cJ cZ cS) as 21 (mwS cB cI cJ cZ h a s) [(0, .ref h), (1, .int x1)] [] (fun x u => x = r ∧ u = (mwS cB cI cJ cZ h a s')) := by
  intro p e s0 m below meth c A E H locs ls hP hD hS hl
  obtain ⟨C, hr, hlocks, hA, hK, hN⟩ := id E
  obtain ⟨hx, hb, hml, hown, hts⟩ := id C
  unfold r_undo_21 at hB
  refine lv_iload_n hx hb dX11_undo_21 rfl (lv_at hl 1 rfl) ?_
  refine lv_bipush (v := 29) hx hb dX11_undo_22 (by decide) ?_
  refine lv_icmp_ge (tgt := 53) hx hb dX11_undo_24 (by decide) (fun c1 => ?_) (fun c1 => ?_)
  · have hB := if_p hB c1
    refine lv_iconst (v := 1) hx hb dX11_undo_53 (by decide) ?_
    exact q_zret C hr hlocks (Or.inr rfl) hK hP hD hS (Nat.le_of_ble_eq_true rfl) (Nat.le_of_ble_eq_true rfl) dX11_undo_54 (by cases hB; exact ⟨rfl, rfl⟩)
  · have hB := if_n hB c1
    refine lv_aload_n hx hb dX11_undo_27 rfl (lv_at hl 0 rfl) ?_
    refine q_get (v := .ref (a 43)) C inX11_undo_X11 hK hP 0 rfl rfl 43 (by decide) rfl LX11_undo_98 rfl dX11_undo_28 ?_
    refine lv_iload_n hx hb dX11_undo_31 rfl (lv_at hl 1 rfl) ?_
    refine lv_aload_n hx hb dX11_undo_32 rfl (lv_at hl 0 rfl) ?_
    refine q_get (v := .ref (a 49)) C inX11_undo_X11 hK hP 0 rfl rfl 49 (by decide) rfl LX11_undo_110 rfl dX11_undo_33 ?_
    refine lv_bipush (v := 29) hx hb dX11_undo_36 (by decide) ?_
    refine lv_aload_n hx hb dX11_undo_38 rfl (lv_at hl 0 rfl) ?_
    refine q_get (v := .int (s.v 48)) C inX11_undo_X11 hK hP 0 rfl rfl 48 (by decide) rfl LX11_undo_230 rfl dX11_undo_39 ?_
    refine lv_imul hx hb dX11_undo_42 ?_
    refine lv_iload_n hx hb dX11_undo_43 rfl (lv_at hl 1 rfl) ?_
    refine lv_iadd hx hb dX11_undo_44 ?_
    obtain ⟨g2, hB⟩ := guard_inv hB
    refine q_iald (x := (s.f 49 (Int32.toNatClampNeg ((29 * (s.v 48)) + x1)))) C hK hP 31 1 rfl rfl (vpb_in g2) dX11_undo_45 rfl ?_
    obtain ⟨g3, hB⟩ := guard_inv hB
    obtain ⟨s4, hs5, hB⟩ := letS_inv hB
    refine q_iast (f2 := (upd (s.f 43) (Int32.toNatClampNeg x1) (s.f 49 (Int32.toNatClampNeg ((29 * (s.v 48)) + x1))))) (w2 := (mwS cB cI cJ cZ h a s4)) C hK hP hD hS 27 1 rfl rfl (vpb_in g3) dX11_undo_46 rfl (mwS_f43 hs5) (fun H locs hP hD hS => ?_)
    refine lv_iinc (v := (x1 + 1)) (lv' := [(1, .int (x1 + 1)), (0, .ref h)]) hx hb dX11_undo_47 hl (k := 1) rfl (rfl) (by decide) rfl (fun ls hl => ?_)
    refine lv_goto (tgt := 21) hx hb dX11_undo_50 (by decide) ?_
    exact hk21 _ _ hB p e s0 m below meth c A E H locs ls hP hD hS (lv_sub hl [1, 0] rfl)
theorem br_undo_21L {l : Launch} {dC : Nat → ClassId} {dI : Nat → Nat → Nat} {cB cI cJ cZ cS : ClassId} {h : Nat} {a : Nat → Nat} {as : List Value} {r : Int32} {s' : RS} : ∀ (n : Nat) (s : RS) (x1 : Int32), r_undo_21L n s x1 = some (r, s') → BlkI l yX11_undo wsX11_undo ({ frames := 0, cells := 0, slots := 0, locals := 0 }) cX11_undo 2 (some .boolean) (dC, dI) (tysA cB cI cJ cZ cS) as 21 (mwS cB cI cJ cZ h a s) [(0, .ref h), (1, .int x1)] [] (fun x u => x = r ∧ u = (mwS cB cI cJ cZ h a s')) := by
  intro n
  induction n with
  | zero => intro s x1 hB; exact none_ne hB
  | succ n ih => intro s x1 hB; exact br_undo_21 ih _ _ hB
set_option maxHeartbeats 4000000 in
set_option maxRecDepth 100000 in
theorem br_undo {l : Launch} {dC : Nat → ClassId} {dI : Nat → Nat → Nat} {cB cI cJ cZ cS : ClassId} {h : Nat} {a : Nat → Nat} {as : List Value} {r : Int32} {s' : RS} (s : RS) (hB : r_undo s = some (r, s')) : BlkI l yX11_undo wsX11_undo ({ frames := 0, cells := 0, slots := 0, locals := 0 }) cX11_undo 2 (some .boolean) (dC, dI) (tysA cB cI cJ cZ cS) as 0 (mwS cB cI cJ cZ h a s) [(0, .ref h)] [] (fun x u => x = r ∧ u = (mwS cB cI cJ cZ h a s')) := by
  intro p e s0 m below meth c A E H locs ls hP hD hS hl
  obtain ⟨C, hr, hlocks, hA, hK, hN⟩ := id E
  obtain ⟨hx, hb, hml, hown, hts⟩ := id C
  unfold r_undo at hB
  refine lv_aload_n hx hb dX11_undo_0 rfl (lv_at hl 0 rfl) ?_
  refine q_get (v := .int (s.v 48)) C inX11_undo_X11 hK hP 0 rfl rfl 48 (by decide) rfl LX11_undo_230 rfl dX11_undo_1 ?_
  refine lv_if_ne (tgt := 9) hx hb dX11_undo_4 (by decide) (fun c1 => ?_) (fun c1 => ?_)
  · have hB := if_n hB c1
    refine lv_aload_n hx hb dX11_undo_9 rfl (lv_at hl 0 rfl) ?_
    refine lv_dup hx hb dX11_undo_10 rfl ?_
    refine q_get (v := .int (s.v 48)) C inX11_undo_X11 hK hP 0 rfl rfl 48 (by decide) rfl LX11_undo_230 rfl dX11_undo_11 ?_
    refine lv_iconst (v := 1) hx hb dX11_undo_14 (by decide) ?_
    refine lv_isub hx hb dX11_undo_15 ?_
    obtain ⟨s2, hs3, hB⟩ := letS_inv hB
    refine q_put (ty := .int) (w2 := (mwS cB cI cJ cZ h a s2)) tyX11 tyX11_ok nmX11 C inX11_undo_X11 hK hP hD hS 0 rfl rfl 48 (by decide) rfl LX11_undo_230 rfl (by decide +kernel) (rfl) rfl (Nat.le_of_ble_eq_true rfl) dX11_undo_16 (mwS_v48 hs3) (fun H locs hP hD hS => ?_)
    refine lv_iconst (v := 0) hx hb dX11_undo_19 (by decide) ?_
    refine lv_istore_n (lv' := [(1, .int 0), (0, .ref h)]) hx hb dX11_undo_20 rfl hl (by decide) rfl (fun ls hl => ?_)
    exact br_undo_21L fu _ _ hB p e s0 m below meth c A E H locs ls hP hD hS (lv_sub hl [1, 0] rfl)
  · have hB := if_p hB c1
    refine lv_iconst (v := 0) hx hb dX11_undo_7 (by decide) ?_
    exact q_zret C hr hlocks (Or.inl rfl) hK hP hD hS (Nat.le_of_ble_eq_true rfl) (Nat.le_of_ble_eq_true rfl) dX11_undo_8 (by cases hB; exact ⟨rfl, rfl⟩)
theorem cr_undo {l : Launch} {dC : Nat → ClassId} {dI : Nat → Nat → Nat} {cB cI cJ cZ cS : ClassId} {h : Nat} {a : Nat → Nat} {r : Int32} {s' : RS} {s : RS} (hB : r_undo s = some (r, s')) : CI l yX11_undo wsX11_undo ({ frames := 0, cells := 0, slots := 0, locals := 0 }) (dC, dI) (tysA cB cI cJ cZ cS) (mwS cB cI cJ cZ h a s) [.ref h] (fun x u => x = r ∧ u = (mwS cB cI cJ cZ h a s')) :=
  CI_of (cc := cX11_undo) (maxL := 2) (ret := (some .boolean)) (by decide) rfl (Nat.le_of_ble_eq_true rfl) (br_undo _ hB)
theorem LX11_casesNow_215 : Cond.fieldLink RX11 215 "GuessFerryModel" "live" "I" ∈ wsX11_casesNow := by decide +kernel
theorem LX11_casesNow_40 : Cond.fieldLink RX11 40 "GuessFerryModel" "waves" "[I" ∈ wsX11_casesNow := by decide +kernel
theorem inX11_casesNow_X11 : ∀ w ∈ u_ws RX11 TX11 58, w ∈ wsX11_casesNow := fun _ h => List.mem_cons_of_mem _ (List.mem_append_right _ h)
set_option maxHeartbeats 4000000 in
set_option maxRecDepth 100000 in
theorem br_casesNow_4 {l : Launch} {dC : Nat → ClassId} {dI : Nat → Nat → Nat} {cB cI cJ cZ cS : ClassId} {h : Nat} {a : Nat → Nat} {as : List Value} {r : Int32} {s' : RS} {k4 : RS → Int32 → Int32 → Option (Int32 × RS)} (hk4 : ∀ (s : RS) (x1 : Int32) (x2 : Int32), k4 s x1 x2 = some (r, s') → BlkI l yX11_casesNow wsX11_casesNow ({ frames := 2, cells := 0, slots := 0, locals := 45 }) cX11_casesNow 3 (some .int) (dC, dI) (tysA cB cI cJ cZ cS) as 4 (mwS cB cI cJ cZ h a s) [(0, .ref h), (1, .int x1), (2, .int x2)] [] (fun x u => x = r ∧ u = (mwS cB cI cJ cZ h a s'))) (s : RS) (x1 : Int32) (x2 : Int32) (hB : r_casesNow_4 k4 s x1 x2 = some (r, s')) : BlkI l yX11_casesNow wsX11_casesNow ({ frames := 2, cells := 0, slots := 0, locals := 45 }) cX11_casesNow 3 (some .int) (dC, dI) (tysA cB cI cJ cZ cS) as 4 (mwS cB cI cJ cZ h a s) [(0, .ref h), (1, .int x1), (2, .int x2)] [] (fun x u => x = r ∧ u = (mwS cB cI cJ cZ h a s')) := by
  intro p e s0 m below meth c A E H locs ls hP hD hS hl
  obtain ⟨C, hr, hlocks, hA, hK, hN⟩ := id E
  obtain ⟨hx, hb, hml, hown, hts⟩ := id C
  unfold r_casesNow_4 at hB
  refine lv_iload_n hx hb dX11_casesNow_4 rfl (lv_at hl 2 rfl) ?_
  refine lv_aload_n hx hb dX11_casesNow_5 rfl (lv_at hl 0 rfl) ?_
  refine q_get (v := .ref (a 20)) C inX11_casesNow_X11 hK hP 0 rfl rfl 20 (by decide) rfl LX11_casesNow_40 rfl dX11_casesNow_6 ?_
  refine lv_aload_n hx hb dX11_casesNow_9 rfl (lv_at hl 0 rfl) ?_
  refine q_get (v := .int (s.v 18)) C inX11_casesNow_X11 hK hP 0 rfl rfl 18 (by decide) rfl LX11_casesNow_215 rfl dX11_casesNow_10 ?_
  obtain ⟨g1, hB⟩ := guard_inv hB
  refine q_iald (x := (s.f 20 (Int32.toNatClampNeg (s.v 18)))) C hK hP 8 1 rfl rfl (vpb_in g1) dX11_casesNow_13 rfl ?_
  refine lv_icmp_ge (tgt := 34) hx hb dX11_casesNow_14 (by decide) (fun c2 => ?_) (fun c2 => ?_)
  · have hB := if_p hB c2
    refine lv_iload_n hx hb dX11_casesNow_34 rfl (lv_at hl 1 rfl) ?_
    exact q_iret C hr hlocks hK hP hD hS (Nat.le_of_ble_eq_true rfl) (Nat.le_of_ble_eq_true rfl) dX11_casesNow_35 (by cases hB; exact ⟨rfl, rfl⟩)
  · have hB := if_n hB c2
    refine lv_iload_n hx hb dX11_casesNow_17 rfl (lv_at hl 1 rfl) ?_
    refine lv_aload_n hx hb dX11_casesNow_18 rfl (lv_at hl 0 rfl) ?_
    refine lv_iload_n hx hb dX11_casesNow_19 rfl (lv_at hl 2 rfl) ?_
    obtain ⟨q_, s3, hc, hB⟩ := bindI_inv hB
    refine q_goiF (va_runV (As := [.int x2]) (rest := [.int x1]) C (cr_mayAt hc _) (cwV 1 hts gX11_casesNow_X11_mayAt rfl rfl rfl (by decide +kernel) ⟨Nat.le_of_ble_eq_true rfl, Nat.le_of_ble_eq_true rfl⟩) (q_preV hK hP (ci := 11) (q0 := 0) rfl rfl rfl (q_preF hN hK hP hD)) rfl rfl hl.1 rfl (lv_room (Nat.le_of_ble_eq_true rfl)) dX11_casesNow_20 ⟨Nat.le_of_ble_eq_true rfl, Nat.le_of_ble_eq_true rfl⟩) hD hS hA (fun r4 w1 H locs hw hP hD hS => ?_)
    obtain ⟨hq_, hw⟩ := hw; subst hw; subst hq_
    obtain ⟨q_, hc, hB⟩ := bindP_inv hB
    refine q_goi0 (va_runS (As := [.int r4]) (rest := [.int x1]) C (cr_bits hc _) (va_cwS 1 hts gX11_casesNow_X11_bits rfl rfl rfl (by decide +kernel) ⟨Nat.le_of_ble_eq_true rfl, Nat.le_of_ble_eq_true rfl⟩) (q_pre0 hN hK) rfl rfl hl.1 rfl (lv_room (Nat.le_of_ble_eq_true rfl)) dX11_casesNow_23 ⟨Nat.le_of_ble_eq_true rfl, Nat.le_of_ble_eq_true rfl⟩) hP hD hS hA (fun r5 w1 H locs hw hP hS => ?_)
    subst hw
    refine lv_imul hx hb dX11_casesNow_26 ?_
    refine lv_istore_n (lv' := [(1, .int (x1 * r5)), (0, .ref h), (2, .int x2)]) hx hb dX11_casesNow_27 rfl hl (by decide) rfl (fun ls hl => ?_)
    refine lv_iinc (v := (x2 + 1)) (lv' := [(2, .int (x2 + 1)), (1, .int (x1 * r5)), (0, .ref h)]) hx hb dX11_casesNow_28 hl (k := 2) rfl (rfl) (by decide) rfl (fun ls hl => ?_)
    refine lv_goto (tgt := 4) hx hb dX11_casesNow_31 (by decide) ?_
    exact hk4 _ _ _ hB p e s0 m below meth c A E H locs ls hP hD hS (lv_sub hl [2, 1, 0] rfl)
theorem br_casesNow_4L {l : Launch} {dC : Nat → ClassId} {dI : Nat → Nat → Nat} {cB cI cJ cZ cS : ClassId} {h : Nat} {a : Nat → Nat} {as : List Value} {r : Int32} {s' : RS} : ∀ (n : Nat) (s : RS) (x1 : Int32) (x2 : Int32), r_casesNow_4L n s x1 x2 = some (r, s') → BlkI l yX11_casesNow wsX11_casesNow ({ frames := 2, cells := 0, slots := 0, locals := 45 }) cX11_casesNow 3 (some .int) (dC, dI) (tysA cB cI cJ cZ cS) as 4 (mwS cB cI cJ cZ h a s) [(0, .ref h), (1, .int x1), (2, .int x2)] [] (fun x u => x = r ∧ u = (mwS cB cI cJ cZ h a s')) := by
  intro n
  induction n with
  | zero => intro s x1 x2 hB; exact none_ne hB
  | succ n ih => intro s x1 x2 hB; exact br_casesNow_4 ih _ _ _ hB
set_option maxHeartbeats 4000000 in
set_option maxRecDepth 100000 in
theorem br_casesNow {l : Launch} {dC : Nat → ClassId} {dI : Nat → Nat → Nat} {cB cI cJ cZ cS : ClassId} {h : Nat} {a : Nat → Nat} {as : List Value} {r : Int32} {s' : RS} (s : RS) (hB : r_casesNow s = some (r, s')) : BlkI l yX11_casesNow wsX11_casesNow ({ frames := 2, cells := 0, slots := 0, locals := 45 }) cX11_casesNow 3 (some .int) (dC, dI) (tysA cB cI cJ cZ cS) as 0 (mwS cB cI cJ cZ h a s) [(0, .ref h)] [] (fun x u => x = r ∧ u = (mwS cB cI cJ cZ h a s')) := by
  intro p e s0 m below meth c A E H locs ls hP hD hS hl
  obtain ⟨C, hr, hlocks, hA, hK, hN⟩ := id E
  obtain ⟨hx, hb, hml, hown, hts⟩ := id C
  unfold r_casesNow at hB
  refine lv_iconst (v := 1) hx hb dX11_casesNow_0 (by decide) ?_
  refine lv_istore_n (lv' := [(1, .int 1), (0, .ref h)]) hx hb dX11_casesNow_1 rfl hl (by decide) rfl (fun ls hl => ?_)
  refine lv_iconst (v := 0) hx hb dX11_casesNow_2 (by decide) ?_
  refine lv_istore_n (lv' := [(2, .int 0), (1, .int 1), (0, .ref h)]) hx hb dX11_casesNow_3 rfl hl (by decide) rfl (fun ls hl => ?_)
  exact br_casesNow_4L fu _ _ _ hB p e s0 m below meth c A E H locs ls hP hD hS (lv_sub hl [2, 1, 0] rfl)
theorem cr_casesNow {l : Launch} {dC : Nat → ClassId} {dI : Nat → Nat → Nat} {cB cI cJ cZ cS : ClassId} {h : Nat} {a : Nat → Nat} {r : Int32} {s' : RS} {s : RS} (hB : r_casesNow s = some (r, s')) : CI l yX11_casesNow wsX11_casesNow ({ frames := 2, cells := 0, slots := 0, locals := 45 }) (dC, dI) (tysA cB cI cJ cZ cS) (mwS cB cI cJ cZ h a s) [.ref h] (fun x u => x = r ∧ u = (mwS cB cI cJ cZ h a s')) :=
  CI_of (cc := cX11_casesNow) (maxL := 3) (ret := (some .int)) (by decide) rfl (Nat.le_of_ble_eq_true rfl) (br_casesNow _ hB)
