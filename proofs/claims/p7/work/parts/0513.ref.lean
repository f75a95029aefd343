theorem dX11_manyIn_0 : decode cX11_manyIn 0 = .ok (.iconst 0, 1) := by decide +kernel
theorem dX11_manyIn_1 : decode cX11_manyIn 1 = .ok (.istore_n 2, 1) := by decide +kernel
theorem dX11_manyIn_2 : decode cX11_manyIn 2 = .ok (.iconst 0, 1) := by decide +kernel
theorem dX11_manyIn_3 : decode cX11_manyIn 3 = .ok (.istore_n 3, 1) := by decide +kernel
theorem dX11_manyIn_4 : decode cX11_manyIn 4 = .ok (.iload_n 3, 1) := by decide +kernel
theorem dX11_manyIn_5 : decode cX11_manyIn 5 = .ok (.aload_n 0, 1) := by decide +kernel
theorem dX11_manyIn_6 : decode cX11_manyIn 6 = .ok (.getfield 49, 3) := by decide +kernel
theorem dX11_manyIn_9 : decode cX11_manyIn 9 = .ok (.aload_n 0, 1) := by decide +kernel
theorem dX11_manyIn_10 : decode cX11_manyIn 10 = .ok (.getfield 215, 3) := by decide +kernel
theorem dX11_manyIn_13 : decode cX11_manyIn 13 = .ok (.iaload, 1) := by decide +kernel
theorem dX11_manyIn_14 : decode cX11_manyIn 14 = .ok (.if_icmp .ge 25, 3) := by decide +kernel
theorem dX11_manyIn_17 : decode cX11_manyIn 17 = .ok (.aload_n 0, 1) := by decide +kernel
theorem dX11_manyIn_18 : decode cX11_manyIn 18 = .ok (.getfield 101, 3) := by decide +kernel
theorem dX11_manyIn_21 : decode cX11_manyIn 21 = .ok (.bipush 15, 2) := by decide +kernel
theorem dX11_manyIn_23 : decode cX11_manyIn 23 = .ok (.iload_n 3, 1) := by decide +kernel
theorem dX11_manyIn_24 : decode cX11_manyIn 24 = .ok (.iadd, 1) := by decide +kernel
theorem dX11_manyIn_25 : decode cX11_manyIn 25 = .ok (.iaload, 1) := by decide +kernel
theorem dX11_manyIn_26 : decode cX11_manyIn 26 = .ok (.iload_n 1, 1) := by decide +kernel
theorem dX11_manyIn_27 : decode cX11_manyIn 27 = .ok (.if_icmp .ne 6, 3) := by decide +kernel
theorem dX11_manyIn_30 : decode cX11_manyIn 30 = .ok (.iinc 2 1, 3) := by decide +kernel
theorem dX11_manyIn_33 : decode cX11_manyIn 33 = .ok (.iinc 3 1, 3) := by decide +kernel
theorem dX11_manyIn_36 : decode cX11_manyIn 36 = .ok (.goto (-32), 3) := by decide +kernel
theorem dX11_manyIn_39 : decode cX11_manyIn 39 = .ok (.iload_n 2, 1) := by decide +kernel
theorem dX11_manyIn_40 : decode cX11_manyIn 40 = .ok (.ireturn, 1) := by decide +kernel
set_option maxRecDepth 20000 in
theorem ggX11_allGo_X11_in : GoodIn wsX11_allGo wsX11_in := goodIn_r _ [9] (by decide +kernel) (by decide +kernel)
set_option maxRecDepth 20000 in
theorem gX11_allGo_X11_in : GoodIn wsX11_allGo (va_wsS RX11 281 yX11_in wsX11_in) := goodIn_app (goodIn_of _ (by decide +kernel)) ggX11_allGo_X11_in
set_option maxRecDepth 20000 in
theorem ggX11_allGo_X11_copies : GoodIn wsX11_allGo wsX11_copies := goodIn_r _ [13, 4, 5, 14, 2, 15, 126, 127, 128, 129, 130, 131, 132, 133, 134, 135, 136, 137, 138, 139, 140, 141, 142, 143, 144, 145, 146, 147, 148, 149, 150, 151, 152, 153, 154, 155, 156, 157, 158, 159, 160, 161, 162, 163, 164, 165, 166, 167, 168, 169, 170, 171, 172, 173, 174, 175, 176, 177, 178, 179, 180, 181, 182, 183] (by decide +kernel) (by decide +kernel)
set_option maxRecDepth 20000 in
theorem gX11_allGo_X11_copies : GoodIn wsX11_allGo (wsV RX11 352 RX11 yX11_copies wsX11_copies) := goodIn_app (goodIn_of _ (by decide +kernel)) ggX11_allGo_X11_copies
set_option maxRecDepth 20000 in
theorem ggX11_allGo_X11_thereNumber : GoodIn wsX11_allGo wsX11_thereNumber := goodIn_r _ [19, 3, 2, 20, 21, 22, 23, 8, 24, 4, 25, 26, 27, 28, 29, 30, 31, 32, 33, 15, 34, 35, 36, 37, 126, 127, 128, 129, 130, 131, 132, 133, 134, 135, 136, 137, 138, 139, 140, 141, 142, 143, 144, 145, 146, 147, 148, 149, 150, 151, 152, 153, 154, 155, 156, 157, 158, 159, 160, 161, 162, 163, 164, 165, 166, 167, 168, 169, 170, 171, 172, 173, 174, 175, 176, 177, 178, 179, 180, 181, 182, 183] (by decide +kernel) (by decide +kernel)
set_option maxRecDepth 20000 in
theorem gX11_allGo_X11_thereNumber : GoodIn wsX11_allGo (wsV RX11 370 RX11 yX11_thereNumber wsX11_thereNumber) := goodIn_app (goodIn_of _ (by decide +kernel)) ggX11_allGo_X11_thereNumber
set_option maxRecDepth 20000 in
theorem ggX11_allGo_X11_isHere : GoodIn wsX11_allGo wsX11_isHere := goodIn_r _ [41, 5, 42, 43, 44, 8, 45, 1, 2, 6, 7, 9, 126, 127, 128, 129, 130, 131, 132, 133, 134, 135, 136, 137, 138, 139, 140, 141, 142, 143, 144, 145, 146, 147, 148, 149, 150, 151, 152, 153, 154, 155, 156, 157, 158, 159, 160, 161, 162, 163, 164, 165, 166, 167, 168, 169, 170, 171, 172, 173, 174, 175, 176, 177, 178, 179, 180, 181, 182, 183] (by decide +kernel) (by decide +kernel)
set_option maxRecDepth 20000 in
theorem gX11_allGo_X11_isHere : GoodIn wsX11_allGo (wsV RX11 364 RX11 yX11_isHere wsX11_isHere) := goodIn_app (goodIn_of _ (by decide +kernel)) ggX11_allGo_X11_isHere
set_option maxRecDepth 20000 in
theorem ggX11_allGo_X11_doesDare : GoodIn wsX11_allGo wsX11_doesDare := goodIn_r _ [49, 50, 51, 52, 8, 53, 54, 4, 55, 2, 56, 57, 58, 59, 60, 61, 62, 63, 64, 65, 66, 67, 68, 69, 70, 71, 72, 73, 74, 75, 126, 127, 128, 129, 130, 131, 132, 133, 134, 135, 136, 137, 138, 139, 140, 141, 142, 143, 144, 145, 146, 147, 148, 149, 150, 151, 152, 153, 154, 155, 156, 157, 158, 159, 160, 161, 162, 163, 164, 165, 166, 167, 168, 169, 170, 171, 172, 173, 174, 175, 176, 177, 178, 179, 180, 181, 182, 183] (by decide +kernel) (by decide +kernel)
set_option maxRecDepth 20000 in
theorem gX11_allGo_X11_doesDare : GoodIn wsX11_allGo (wsV RX11 361 RX11 yX11_doesDare wsX11_doesDare) := goodIn_app (goodIn_of _ (by decide +kernel)) ggX11_allGo_X11_doesDare
set_option maxRecDepth 20000 in
theorem ggX11_allGo_X11_bestFor : GoodIn wsX11_allGo wsX11_bestFor := goodIn_r _ [79, 3, 2, 20, 80, 81, 82, 8, 83, 84, 85, 86, 87, 4, 25, 26, 27, 28, 29, 88, 89, 90, 91, 92, 93, 94, 95, 54, 50, 51, 52, 53, 55, 56, 96, 97, 98, 99, 100, 101, 102, 57, 58, 59, 60, 61, 62, 63, 64, 65, 66, 67, 68, 69, 70, 71, 72, 73, 74, 75, 103, 104, 105, 126, 127, 128, 129, 130, 131, 132, 133, 134, 135, 136, 137, 138, 139, 140, 141, 142, 143, 144, 145, 146, 147, 148, 149, 150, 151, 152, 153, 154, 155, 156, 157, 158, 159, 160, 161, 162, 163, 164, 165, 166, 167, 168, 169, 170, 171, 172, 173, 174, 175, 176, 177, 178, 179, 180, 181, 182, 183] (by decide +kernel) (by decide +kernel)
set_option maxRecDepth 20000 in
theorem gX11_allGo_X11_bestFor : GoodIn wsX11_allGo (wsV RX11 398 RX11 yX11_bestFor wsX11_bestFor) := goodIn_app (goodIn_of _ (by decide +kernel)) ggX11_allGo_X11_bestFor
set_option maxRecDepth 20000 in
theorem ggX11_allGo_X11_goesBy : GoodIn wsX11_allGo wsX11_goesBy := goodIn_r _ [109, 4, 3, 2, 110, 111, 112, 8, 113, 114, 115, 116, 117, 20, 88, 89, 90, 91, 25, 26, 27, 28, 29, 92, 93, 94, 95, 54, 50, 51, 52, 53, 55, 56, 96, 97, 98, 99, 84, 85, 86, 87, 100, 101, 102, 57, 58, 59, 60, 61, 62, 63, 64, 65, 66, 67, 68, 69, 70, 71, 72, 73, 74, 75, 103, 104, 105, 118, 119, 120, 121, 126, 127, 128, 129, 130, 131, 132, 133, 134, 135, 136, 137, 138, 139, 140, 141, 142, 143, 144, 145, 146, 147, 148, 149, 150, 151, 152, 153, 154, 155, 156, 157, 158, 159, 160, 161, 162, 163, 164, 165, 166, 167, 168, 169, 170, 171, 172, 173, 174, 175, 176, 177, 178, 179, 180, 181, 182, 183] (by decide +kernel) (by decide +kernel)
set_option maxRecDepth 20000 in
theorem gX11_allGo_X11_goesBy : GoodIn wsX11_allGo (wsV RX11 373 RX11 yX11_goesBy wsX11_goesBy) := goodIn_app (goodIn_of _ (by decide +kernel)) ggX11_allGo_X11_goesBy
set_option maxRecDepth 20000 in
theorem ggX11_allGo_X11_manyIn : GoodIn wsX11_allGo wsX11_manyIn := goodIn_r _ [125, 1, 2, 4, 126, 127, 128, 129, 130, 131, 132, 133, 134, 135, 136, 137, 138, 139, 140, 141, 142, 143, 144, 145, 146, 147, 148, 149, 150, 151, 152, 153, 154, 155, 156, 157, 158, 159, 160, 161, 162, 163, 164, 165, 166, 167, 168, 169, 170, 171, 172, 173, 174, 175, 176, 177, 178, 179, 180, 181, 182, 183] (by decide +kernel) (by decide +kernel)
set_option maxRecDepth 20000 in
theorem gX11_allGo_X11_manyIn : GoodIn wsX11_allGo (wsV RX11 416 RX11 yX11_manyIn wsX11_manyIn) := goodIn_app (goodIn_of _ (by decide +kernel)) ggX11_allGo_X11_manyIn
theorem dX11_allGo_0 : decode cX11_allGo 0 = .ok (.iload_n 1, 1) := by decide +kernel
theorem dX11_allGo_1 : decode cX11_allGo 1 = .ok (.iconst 0, 1) := by decide +kernel
theorem dX11_allGo_2 : decode cX11_allGo 2 = .ok (.iconst 2, 1) := by decide +kernel
theorem dX11_allGo_3 : decode cX11_allGo 3 = .ok (.invokestatic 281, 3) := by decide +kernel
theorem dX11_allGo_6 : decode cX11_allGo 6 = .ok (.ifCond .ne 5, 3) := by decide +kernel
theorem dX11_allGo_9 : decode cX11_allGo 9 = .ok (.iconst (-1), 1) := by decide +kernel
theorem dX11_allGo_10 : decode cX11_allGo 10 = .ok (.ireturn, 1) := by decide +kernel
theorem dX11_allGo_11 : decode cX11_allGo 11 = .ok (.aload_n 0, 1) := by decide +kernel
theorem dX11_allGo_12 : decode cX11_allGo 12 = .ok (.invokevirtual 352, 3) := by decide +kernel
theorem dX11_allGo_15 : decode cX11_allGo 15 = .ok (.aload_n 0, 1) := by decide +kernel
theorem dX11_allGo_16 : decode cX11_allGo 16 = .ok (.invokevirtual 370, 3) := by decide +kernel
theorem dX11_allGo_19 : decode cX11_allGo 19 = .ok (.istore_n 2, 1) := by decide +kernel
theorem dX11_allGo_20 : decode cX11_allGo 20 = .ok (.iconst 0, 1) := by decide +kernel
theorem dX11_allGo_21 : decode cX11_allGo 21 = .ok (.istore_n 3, 1) := by decide +kernel
theorem dX11_allGo_22 : decode cX11_allGo 22 = .ok (.iload_n 3, 1) := by decide +kernel
theorem dX11_allGo_23 : decode cX11_allGo 23 = .ok (.aload_n 0, 1) := by decide +kernel
theorem dX11_allGo_24 : decode cX11_allGo 24 = .ok (.getfield 49, 3) := by decide +kernel
theorem dX11_allGo_27 : decode cX11_allGo 27 = .ok (.aload_n 0, 1) := by decide +kernel
theorem dX11_allGo_28 : decode cX11_allGo 28 = .ok (.getfield 215, 3) := by decide +kernel
theorem dX11_allGo_31 : decode cX11_allGo 31 = .ok (.iaload, 1) := by decide +kernel
theorem dX11_allGo_32 : decode cX11_allGo 32 = .ok (.if_icmp .ge 63, 3) := by decide +kernel
theorem dX11_allGo_35 : decode cX11_allGo 35 = .ok (.aload_n 0, 1) := by decide +kernel
theorem dX11_allGo_36 : decode cX11_allGo 36 = .ok (.iload_n 3, 1) := by decide +kernel
theorem dX11_allGo_37 : decode cX11_allGo 37 = .ok (.invokevirtual 364, 3) := by decide +kernel
theorem dX11_allGo_40 : decode cX11_allGo 40 = .ok (.ifCond .eq 31, 3) := by decide +kernel
theorem dX11_allGo_43 : decode cX11_allGo 43 = .ok (.aload_n 0, 1) := by decide +kernel
theorem dX11_allGo_44 : decode cX11_allGo 44 = .ok (.iload_n 3, 1) := by decide +kernel
theorem dX11_allGo_45 : decode cX11_allGo 45 = .ok (.invokevirtual 361, 3) := by decide +kernel
theorem dX11_allGo_48 : decode cX11_allGo 48 = .ok (.ifCond .eq 23, 3) := by decide +kernel
theorem dX11_allGo_51 : decode cX11_allGo 51 = .ok (.aload_n 0, 1) := by decide +kernel
theorem dX11_allGo_52 : decode cX11_allGo 52 = .ok (.getfield 40, 3) := by decide +kernel
theorem dX11_allGo_55 : decode cX11_allGo 55 = .ok (.aload_n 0, 1) := by decide +kernel
theorem dX11_allGo_56 : decode cX11_allGo 56 = .ok (.getfield 215, 3) := by decide +kernel
theorem dX11_allGo_59 : decode cX11_allGo 59 = .ok (.iaload, 1) := by decide +kernel
theorem dX11_allGo_60 : decode cX11_allGo 60 = .ok (.ifCond .le 11, 3) := by decide +kernel
theorem dX11_allGo_63 : decode cX11_allGo 63 = .ok (.aload_n 0, 1) := by decide +kernel
theorem dX11_allGo_64 : decode cX11_allGo 64 = .ok (.iload_n 3, 1) := by decide +kernel
theorem dX11_allGo_65 : decode cX11_allGo 65 = .ok (.invokevirtual 398, 3) := by decide +kernel
theorem dX11_allGo_68 : decode cX11_allGo 68 = .ok (.goto 5, 3) := by decide +kernel
theorem dX11_allGo_71 : decode cX11_allGo 71 = .ok (.bipush (-2), 2) := by decide +kernel
theorem dX11_allGo_73 : decode cX11_allGo 73 = .ok (.istore 4, 2) := by decide +kernel
theorem dX11_allGo_75 : decode cX11_allGo 75 = .ok (.iload 4, 2) := by decide +kernel
theorem dX11_allGo_77 : decode cX11_allGo 77 = .ok (.ifCond .lt 12, 3) := by decide +kernel
theorem dX11_allGo_80 : decode cX11_allGo 80 = .ok (.aload_n 0, 1) := by decide +kernel
theorem dX11_allGo_81 : decode cX11_allGo 81 = .ok (.iload_n 3, 1) := by decide +kernel
theorem dX11_allGo_82 : decode cX11_allGo 82 = .ok (.iload 4, 2) := by decide +kernel
theorem dX11_allGo_84 : decode cX11_allGo 84 = .ok (.iload_n 2, 1) := by decide +kernel
theorem dX11_allGo_85 : decode cX11_allGo 85 = .ok (.invokevirtual 373, 3) := by decide +kernel
theorem dX11_allGo_88 : decode cX11_allGo 88 = .ok (.pop, 1) := by decide +kernel
theorem dX11_allGo_89 : decode cX11_allGo 89 = .ok (.iinc 3 1, 3) := by decide +kernel
theorem dX11_allGo_92 : decode cX11_allGo 92 = .ok (.goto (-70), 3) := by decide +kernel
theorem dX11_allGo_95 : decode cX11_allGo 95 = .ok (.iload_n 1, 1) := by decide +kernel
theorem dX11_allGo_96 : decode cX11_allGo 96 = .ok (.ifCond .ne 11, 3) := by decide +kernel
theorem dX11_allGo_99 : decode cX11_allGo 99 = .ok (.aload_n 0, 1) := by decide +kernel
theorem dX11_allGo_100 : decode cX11_allGo 100 = .ok (.iconst 2, 1) := by decide +kernel
theorem dX11_allGo_101 : decode cX11_allGo 101 = .ok (.invokevirtual 416, 3) := by decide +kernel
theorem dX11_allGo_104 : decode cX11_allGo 104 = .ok (.goto 31, 3) := by decide +kernel
theorem dX11_allGo_107 : decode cX11_allGo 107 = .ok (.iload_n 1, 1) := by decide +kernel
theorem dX11_allGo_108 : decode cX11_allGo 108 = .ok (.iconst 1, 1) := by decide +kernel
theorem dX11_allGo_109 : decode cX11_allGo 109 = .ok (.if_icmp .ne 11, 3) := by decide +kernel
theorem dX11_allGo_112 : decode cX11_allGo 112 = .ok (.aload_n 0, 1) := by decide +kernel
theorem dX11_allGo_113 : decode cX11_allGo 113 = .ok (.iconst 1, 1) := by decide +kernel
theorem dX11_allGo_114 : decode cX11_allGo 114 = .ok (.invokevirtual 416, 3) := by decide +kernel
theorem dX11_allGo_117 : decode cX11_allGo 117 = .ok (.goto 18, 3) := by decide +kernel
theorem dX11_allGo_120 : decode cX11_allGo 120 = .ok (.aload_n 0, 1) := by decide +kernel
theorem dX11_allGo_121 : decode cX11_allGo 121 = .ok (.getfield 101, 3) := by decide +kernel
theorem dX11_allGo_124 : decode cX11_allGo 124 = .ok (.bipush 28, 2) := by decide +kernel
theorem dX11_allGo_126 : decode cX11_allGo 126 = .ok (.iaload, 1) := by decide +kernel
theorem dX11_allGo_127 : decode cX11_allGo 127 = .ok (.aload_n 0, 1) := by decide +kernel
theorem dX11_allGo_128 : decode cX11_allGo 128 = .ok (.getfield 98, 3) := by decide +kernel
theorem dX11_allGo_131 : decode cX11_allGo 131 = .ok (.bipush 28, 2) := by decide +kernel
theorem dX11_allGo_133 : decode cX11_allGo 133 = .ok (.iaload, 1) := by decide +kernel
theorem dX11_allGo_134 : decode cX11_allGo 134 = .ok (.isub, 1) := by decide +kernel
theorem dX11_allGo_135 : decode cX11_allGo 135 = .ok (.ireturn, 1) := by decide +kernel
set_option maxRecDepth 20000 in
theorem ggX11_darers_X11_copies : GoodIn wsX11_darers wsX11_copies := goodIn_r _ [7, 8, 9, 10, 2, 11, 53, 54, 55, 56, 57, 58, 59, 60, 61, 62, 63, 64, 65, 66, 67, 68, 69, 70, 71, 72, 73, 74, 75, 76, 77, 78, 79, 80, 81, 82, 83, 84, 85, 86, 87, 88, 89, 90, 91, 92, 93, 94, 95, 96, 97, 98, 99, 100, 101, 102, 103, 104, 105, 106, 107, 108, 109, 110] (by decide +kernel) (by decide +kernel)
set_option maxRecDepth 20000 in
theorem gX11_darers_X11_copies : GoodIn wsX11_darers (wsV RX11 352 RX11 yX11_copies wsX11_copies) := goodIn_app (goodIn_of _ (by decide +kernel)) ggX11_darers_X11_copies
set_option maxRecDepth 20000 in
theorem ggX11_darers_X11_isHere : GoodIn wsX11_darers wsX11_isHere := goodIn_r _ [15, 9, 16, 17, 18, 6, 19, 1, 2, 20, 21, 22, 53, 54, 55, 56, 57, 58, 59, 60, 61, 62, 63, 64, 65, 66, 67, 68, 69, 70, 71, 72, 73, 74, 75, 76, 77, 78, 79, 80, 81, 82, 83, 84, 85, 86, 87, 88, 89, 90, 91, 92, 93, 94, 95, 96, 97, 98, 99, 100, 101, 102, 103, 104, 105, 106, 107, 108, 109, 110] (by decide +kernel) (by decide +kernel)
set_option maxRecDepth 20000 in
theorem gX11_darers_X11_isHere : GoodIn wsX11_darers (wsV RX11 364 RX11 yX11_isHere wsX11_isHere) := goodIn_app (goodIn_of _ (by decide +kernel)) ggX11_darers_X11_isHere
set_option maxRecDepth 20000 in
theorem ggX11_darers_X11_doesDare : GoodIn wsX11_darers wsX11_doesDare := goodIn_r _ [26, 27, 28, 29, 6, 30, 31, 8, 32, 2, 33, 34, 35, 36, 37, 38, 39, 40, 41, 42, 43, 44, 45, 46, 47, 48, 49, 50, 51, 52, 53, 54, 55, 56, 57, 58, 59, 60, 61, 62, 63, 64, 65, 66, 67, 68, 69, 70, 71, 72, 73, 74, 75, 76, 77, 78, 79, 80, 81, 82, 83, 84, 85, 86, 87, 88, 89, 90, 91, 92, 93, 94, 95, 96, 97, 98, 99, 100, 101, 102, 103, 104, 105, 106, 107, 108, 109, 110] (by decide +kernel) (by decide +kernel)
set_option maxRecDepth 20000 in
theorem gX11_darers_X11_doesDare : GoodIn wsX11_darers (wsV RX11 361 RX11 yX11_doesDare wsX11_doesDare) := goodIn_app (goodIn_of _ (by decide +kernel)) ggX11_darers_X11_doesDare
theorem dX11_darers_0 : decode cX11_darers 0 = .ok (.aload_n 0, 1) := by decide +kernel
theorem dX11_darers_1 : decode cX11_darers 1 = .ok (.invokevirtual 352, 3) := by decide +kernel
theorem dX11_darers_4 : decode cX11_darers 4 = .ok (.iconst 0, 1) := by decide +kernel
theorem dX11_darers_5 : decode cX11_darers 5 = .ok (.istore_n 1, 1) := by decide +kernel
theorem dX11_darers_6 : decode cX11_darers 6 = .ok (.iconst 0, 1) := by decide +kernel
theorem dX11_darers_7 : decode cX11_darers 7 = .ok (.istore_n 2, 1) := by decide +kernel
theorem dX11_darers_8 : decode cX11_darers 8 = .ok (.iload_n 2, 1) := by decide +kernel
theorem dX11_darers_9 : decode cX11_darers 9 = .ok (.aload_n 0, 1) := by decide +kernel
theorem dX11_darers_10 : decode cX11_darers 10 = .ok (.getfield 49, 3) := by decide +kernel
theorem dX11_darers_13 : decode cX11_darers 13 = .ok (.aload_n 0, 1) := by decide +kernel
theorem dX11_darers_14 : decode cX11_darers 14 = .ok (.getfield 215, 3) := by decide +kernel
theorem dX11_darers_17 : decode cX11_darers 17 = .ok (.iaload, 1) := by decide +kernel
theorem dX11_darers_18 : decode cX11_darers 18 = .ok (.if_icmp .ge 31, 3) := by decide +kernel
theorem dX11_darers_21 : decode cX11_darers 21 = .ok (.aload_n 0, 1) := by decide +kernel
theorem dX11_darers_22 : decode cX11_darers 22 = .ok (.iload_n 2, 1) := by decide +kernel
theorem dX11_darers_23 : decode cX11_darers 23 = .ok (.invokevirtual 364, 3) := by decide +kernel
theorem dX11_darers_26 : decode cX11_darers 26 = .ok (.ifCond .eq 17, 3) := by decide +kernel
theorem dX11_darers_29 : decode cX11_darers 29 = .ok (.aload_n 0, 1) := by decide +kernel
theorem dX11_darers_30 : decode cX11_darers 30 = .ok (.iload_n 2, 1) := by decide +kernel
theorem dX11_darers_31 : decode cX11_darers 31 = .ok (.invokevirtual 361, 3) := by decide +kernel
theorem dX11_darers_34 : decode cX11_darers 34 = .ok (.ifCond .eq 9, 3) := by decide +kernel
theorem dX11_darers_37 : decode cX11_darers 37 = .ok (.iload_n 1, 1) := by decide +kernel
theorem dX11_darers_38 : decode cX11_darers 38 = .ok (.iconst 1, 1) := by decide +kernel
theorem dX11_darers_39 : decode cX11_darers 39 = .ok (.iload_n 2, 1) := by decide +kernel
theorem dX11_darers_40 : decode cX11_darers 40 = .ok (.ishl, 1) := by decide +kernel
theorem dX11_darers_41 : decode cX11_darers 41 = .ok (.ior, 1) := by decide +kernel
theorem dX11_darers_42 : decode cX11_darers 42 = .ok (.istore_n 1, 1) := by decide +kernel
theorem dX11_darers_43 : decode cX11_darers 43 = .ok (.iinc 2 1, 3) := by decide +kernel
theorem dX11_darers_46 : decode cX11_darers 46 = .ok (.goto (-38), 3) := by decide +kernel
theorem dX11_darers_49 : decode cX11_darers 49 = .ok (.iload_n 1, 1) := by decide +kernel
theorem dX11_darers_50 : decode cX11_darers 50 = .ok (.ireturn, 1) := by decide +kernel
set_option maxRecDepth 20000 in
theorem ggX11_open_X11_copies : GoodIn wsX11_open wsX11_copies := goodIn_r _ [7, 8, 9, 10, 2, 11, 24, 25, 26, 27, 28, 29, 30, 31, 32, 33, 34, 35, 36, 37, 38, 39, 40, 41, 42, 43, 44, 45, 46, 47, 48, 49, 50, 51, 52, 53, 54, 55, 56, 57, 58, 59, 60, 61, 62, 63, 64, 65, 66, 67, 68, 69, 70, 71, 72, 73, 74, 75, 76, 77, 78, 79, 80, 81] (by decide +kernel) (by decide +kernel)
set_option maxRecDepth 20000 in
theorem gX11_open_X11_copies : GoodIn wsX11_open (wsV RX11 352 RX11 yX11_copies wsX11_copies) := goodIn_app (goodIn_of _ (by decide +kernel)) ggX11_open_X11_copies
set_option maxRecDepth 20000 in
theorem ggX11_open_X11_mayAt : GoodIn wsX11_open wsX11_mayAt := goodIn_r _ [15, 8, 16, 17, 18, 6, 19, 20, 2, 24, 25, 26, 27, 28, 29, 30, 31, 32, 33, 34, 35, 36, 37, 38, 39, 40, 41, 42, 43, 44, 45, 46, 47, 48, 49, 50, 51, 52, 53, 54, 55, 56, 57, 58, 59, 60, 61, 62, 63, 64, 65, 66, 67, 68, 69, 70, 71, 72, 73, 74, 75, 76, 77, 78, 79, 80, 81] (by decide +kernel) (by decide +kernel)
set_option maxRecDepth 20000 in
theorem gX11_open_X11_mayAt : GoodIn wsX11_open (wsV RX11 309 RX11 yX11_mayAt wsX11_mayAt) := goodIn_app (goodIn_of _ (by decide +kernel)) ggX11_open_X11_mayAt
set_option maxRecDepth 20000 in
theorem ggX11_open_X11_bits : GoodIn wsX11_open wsX11_bits := goodIn_r _ [23] (by decide +kernel) (by decide +kernel)
set_option maxRecDepth 20000 in
theorem gX11_open_X11_bits : GoodIn wsX11_open (va_wsS RX11 312 yX11_bits wsX11_bits) := goodIn_app (goodIn_of _ (by decide +kernel)) ggX11_open_X11_bits
theorem dX11_open_0 : decode cX11_open 0 = .ok (.aload_n 0, 1) := by decide +kernel
theorem dX11_open_1 : decode cX11_open 1 = .ok (.invokevirtual 352, 3) := by decide +kernel
theorem dX11_open_4 : decode cX11_open 4 = .ok (.iconst 0, 1) := by decide +kernel
theorem dX11_open_5 : decode cX11_open 5 = .ok (.istore_n 1, 1) := by decide +kernel
theorem dX11_open_6 : decode cX11_open 6 = .ok (.iconst 0, 1) := by decide +kernel
theorem dX11_open_7 : decode cX11_open 7 = .ok (.istore_n 2, 1) := by decide +kernel
theorem dX11_open_8 : decode cX11_open 8 = .ok (.iload_n 2, 1) := by decide +kernel
theorem dX11_open_9 : decode cX11_open 9 = .ok (.aload_n 0, 1) := by decide +kernel
theorem dX11_open_10 : decode cX11_open 10 = .ok (.getfield 40, 3) := by decide +kernel
theorem dX11_open_13 : decode cX11_open 13 = .ok (.aload_n 0, 1) := by decide +kernel
theorem dX11_open_14 : decode cX11_open 14 = .ok (.getfield 215, 3) := by decide +kernel
theorem dX11_open_17 : decode cX11_open 17 = .ok (.iaload, 1) := by decide +kernel
theorem dX11_open_18 : decode cX11_open 18 = .ok (.if_icmp .ge 27, 3) := by decide +kernel
theorem dX11_open_21 : decode cX11_open 21 = .ok (.aload_n 0, 1) := by decide +kernel
theorem dX11_open_22 : decode cX11_open 22 = .ok (.iload_n 2, 1) := by decide +kernel
theorem dX11_open_23 : decode cX11_open 23 = .ok (.invokevirtual 309, 3) := by decide +kernel
theorem dX11_open_26 : decode cX11_open 26 = .ok (.invokestatic 312, 3) := by decide +kernel
theorem dX11_open_29 : decode cX11_open 29 = .ok (.iconst 1, 1) := by decide +kernel
theorem dX11_open_30 : decode cX11_open 30 = .ok (.if_icmp .le 9, 3) := by decide +kernel
theorem dX11_open_33 : decode cX11_open 33 = .ok (.iload_n 1, 1) := by decide +kernel
theorem dX11_open_34 : decode cX11_open 34 = .ok (.iconst 1, 1) := by decide +kernel
theorem dX11_open_35 : decode cX11_open 35 = .ok (.iload_n 2, 1) := by decide +kernel
theorem dX11_open_36 : decode cX11_open 36 = .ok (.ishl, 1) := by decide +kernel
theorem dX11_open_37 : decode cX11_open 37 = .ok (.ior, 1) := by decide +kernel
theorem dX11_open_38 : decode cX11_open 38 = .ok (.istore_n 1, 1) := by decide +kernel
theorem dX11_open_39 : decode cX11_open 39 = .ok (.iinc 2 1, 3) := by decide +kernel
theorem dX11_open_42 : decode cX11_open 42 = .ok (.goto (-34), 3) := by decide +kernel
theorem dX11_open_45 : decode cX11_open 45 = .ok (.iload_n 1, 1) := by decide +kernel
theorem dX11_open_46 : decode cX11_open 46 = .ok (.ireturn, 1) := by decide +kernel
set_option maxRecDepth 20000 in
theorem ggX11_then_X11_isWave : GoodIn wsX11_then wsX11_isWave := goodIn_r _ [6, 7, 8, 9, 10, 5, 11, 93, 94, 95, 96, 97, 98, 99, 100, 101, 102, 103, 104, 105, 106, 107, 108, 109, 110, 111, 112, 113, 114, 115, 116, 117, 118, 119, 120, 121, 122, 123, 124, 125, 126, 127, 128, 129, 130, 131, 132, 133, 134, 135, 136, 137, 138, 139, 140, 141, 142, 143, 144, 145, 146, 147, 148, 149, 150] (by decide +kernel) (by decide +kernel)
set_option maxRecDepth 20000 in
theorem gX11_then_X11_isWave : GoodIn wsX11_then (wsV RX11 349 RX11 yX11_isWave wsX11_isWave) := goodIn_app (goodIn_of _ (by decide +kernel)) ggX11_then_X11_isWave
set_option maxRecDepth 20000 in
theorem ggX11_then_X11_isLong : GoodIn wsX11_then wsX11_isLong := goodIn_r _ [14, 9, 10, 5, 11] (by decide +kernel) (by decide +kernel)
set_option maxRecDepth 20000 in
theorem gX11_then_X11_isLong : GoodIn wsX11_then (va_wsS RX11 379 yX11_isLong wsX11_isLong) := goodIn_app (goodIn_of _ (by decide +kernel)) ggX11_then_X11_isLong
set_option maxRecDepth 20000 in
theorem ggX11_then_X11_in : GoodIn wsX11_then wsX11_in := goodIn_r _ [11] (by decide +kernel) (by decide +kernel)
set_option maxRecDepth 20000 in
theorem gX11_then_X11_in : GoodIn wsX11_then (va_wsS RX11 281 yX11_in wsX11_in) := goodIn_app (goodIn_of _ (by decide +kernel)) ggX11_then_X11_in
set_option maxRecDepth 20000 in
theorem ggX11_then_X11_copies : GoodIn wsX11_then wsX11_copies := goodIn_r _ [18, 1, 19, 20, 8, 21, 93, 94, 95, 96, 97, 98, 99, 100, 101, 102, 103, 104, 105, 106, 107, 108, 109, 110, 111, 112, 113, 114, 115, 116, 117, 118, 119, 120, 121, 122, 123, 124, 125, 126, 127, 128, 129, 130, 131, 132, 133, 134, 135, 136, 137, 138, 139, 140, 141, 142, 143, 144, 145, 146, 147, 148, 149, 150] (by decide +kernel) (by decide +kernel)
set_option maxRecDepth 20000 in
theorem gX11_then_X11_copies : GoodIn wsX11_then (wsV RX11 352 RX11 yX11_copies wsX11_copies) := goodIn_app (goodIn_of _ (by decide +kernel)) ggX11_then_X11_copies
set_option maxRecDepth 20000 in
theorem ggX11_then_X11_yearsGo : GoodIn wsX11_then wsX11_yearsGo := goodIn_r _ [25, 26, 27, 28, 5, 29, 7, 8, 30, 1, 31, 32, 33, 34, 35, 21, 36, 37, 38, 39, 40, 41, 42, 43, 44, 45, 46, 47, 48, 49, 50, 51, 52, 53, 54, 55, 56, 57, 58, 59, 60, 61, 62, 63, 64, 65, 66, 67, 68, 69, 70, 71, 72, 73, 74, 75, 76, 77, 78, 79, 80, 81, 82, 83, 84, 85, 86, 87, 88, 93, 94, 95, 96, 97, 98, 99, 100, 101, 102, 103, 104, 105, 106, 107, 108, 109, 110, 111, 112, 113, 114, 115, 116, 117, 118, 119, 120, 121, 122, 123, 124, 125, 126, 127, 128, 129, 130, 131, 132, 133, 134, 135, 136, 137, 138, 139, 140, 141, 142, 143, 144, 145, 146, 147, 148, 149, 150] (by decide +kernel) (by decide +kernel)
set_option maxRecDepth 20000 in
theorem gX11_then_X11_yearsGo : GoodIn wsX11_then (wsV RX11 382 RX11 yX11_yearsGo wsX11_yearsGo) := goodIn_app (goodIn_of _ (by decide +kernel)) ggX11_then_X11_yearsGo
set_option maxRecDepth 20000 in
theorem ggX11_then_X11_mayAt : GoodIn wsX11_then wsX11_mayAt := goodIn_r _ [58, 1, 59, 60, 61, 5, 62, 63, 8, 93, 94, 95, 96, 97, 98, 99, 100, 101, 102, 103, 104, 105, 106, 107, 108, 109, 110, 111, 112, 113, 114, 115, 116, 117, 118, 119, 120, 121, 122, 123, 124, 125, 126, 127, 128, 129, 130, 131, 132, 133, 134, 135, 136, 137, 138, 139, 140, 141, 142, 143, 144, 145, 146, 147, 148, 149, 150] (by decide +kernel) (by decide +kernel)
set_option maxRecDepth 20000 in
theorem gX11_then_X11_mayAt : GoodIn wsX11_then (wsV RX11 309 RX11 yX11_mayAt wsX11_mayAt) := goodIn_app (goodIn_of _ (by decide +kernel)) ggX11_then_X11_mayAt
set_option maxRecDepth 20000 in
theorem ggX11_then_X11_thereAt : GoodIn wsX11_then wsX11_thereAt := goodIn_r _ [92, 1, 59, 60, 61, 5, 62, 63, 8, 32, 33, 34, 35, 21, 36, 37, 38, 39, 93, 94, 95, 96, 97, 98, 99, 100, 101, 102, 103, 104, 105, 106, 107, 108, 109, 110, 111, 112, 113, 114, 115, 116, 117, 118, 119, 120, 121, 122, 123, 124, 125, 126, 127, 128, 129, 130, 131, 132, 133, 134, 135, 136, 137, 138, 139, 140, 141, 142, 143, 144, 145, 146, 147, 148, 149, 150] (by decide +kernel) (by decide +kernel)
set_option maxRecDepth 20000 in
theorem gX11_then_X11_thereAt : GoodIn wsX11_then (wsV RX11 303 RX11 yX11_thereAt wsX11_thereAt) := goodIn_app (goodIn_of _ (by decide +kernel)) ggX11_then_X11_thereAt
theorem dX11_then_0 : decode cX11_then 0 = .ok (.aload_n 0, 1) := by decide +kernel
theorem dX11_then_1 : decode cX11_then 1 = .ok (.iload_n 1, 1) := by decide +kernel
theorem dX11_then_2 : decode cX11_then 2 = .ok (.invokevirtual 349, 3) := by decide +kernel
theorem dX11_then_5 : decode cX11_then 5 = .ok (.ifCond .eq 19, 3) := by decide +kernel
theorem dX11_then_8 : decode cX11_then 8 = .ok (.iload_n 2, 1) := by decide +kernel
theorem dX11_then_9 : decode cX11_then 9 = .ok (.invokestatic 379, 3) := by decide +kernel
theorem dX11_then_12 : decode cX11_then 12 = .ok (.ifCond .eq 12, 3) := by decide +kernel
theorem dX11_then_15 : decode cX11_then 15 = .ok (.iload_n 3, 1) := by decide +kernel
theorem dX11_then_16 : decode cX11_then 16 = .ok (.iconst 0, 1) := by decide +kernel
theorem dX11_then_17 : decode cX11_then 17 = .ok (.iconst 2, 1) := by decide +kernel
theorem dX11_then_18 : decode cX11_then 18 = .ok (.invokestatic 281, 3) := by decide +kernel
theorem dX11_then_21 : decode cX11_then 21 = .ok (.ifCond .ne 5, 3) := by decide +kernel
theorem dX11_then_24 : decode cX11_then 24 = .ok (.iconst (-1), 1) := by decide +kernel
theorem dX11_then_25 : decode cX11_then 25 = .ok (.ireturn, 1) := by decide +kernel
theorem dX11_then_26 : decode cX11_then 26 = .ok (.aload_n 0, 1) := by decide +kernel
theorem dX11_then_27 : decode cX11_then 27 = .ok (.invokevirtual 352, 3) := by decide +kernel
theorem dX11_then_30 : decode cX11_then 30 = .ok (.aload_n 0, 1) := by decide +kernel
theorem dX11_then_31 : decode cX11_then 31 = .ok (.iload_n 2, 1) := by decide +kernel
theorem dX11_then_32 : decode cX11_then 32 = .ok (.invokevirtual 382, 3) := by decide +kernel
theorem dX11_then_35 : decode cX11_then 35 = .ok (.iload_n 3, 1) := by decide +kernel
theorem dX11_then_36 : decode cX11_then 36 = .ok (.ifCond .ne 11, 3) := by decide +kernel
theorem dX11_then_39 : decode cX11_then 39 = .ok (.aload_n 0, 1) := by decide +kernel
theorem dX11_then_40 : decode cX11_then 40 = .ok (.iload_n 1, 1) := by decide +kernel
theorem dX11_then_41 : decode cX11_then 41 = .ok (.invokevirtual 309, 3) := by decide +kernel
theorem dX11_then_44 : decode cX11_then 44 = .ok (.goto 25, 3) := by decide +kernel
theorem dX11_then_47 : decode cX11_then 47 = .ok (.iload_n 3, 1) := by decide +kernel
theorem dX11_then_48 : decode cX11_then 48 = .ok (.iconst 1, 1) := by decide +kernel
theorem dX11_then_49 : decode cX11_then 49 = .ok (.if_icmp .ne 15, 3) := by decide +kernel
theorem dX11_then_52 : decode cX11_then 52 = .ok (.aload_n 0, 1) := by decide +kernel
theorem dX11_then_53 : decode cX11_then 53 = .ok (.getfield 101, 3) := by decide +kernel
theorem dX11_then_56 : decode cX11_then 56 = .ok (.bipush 10, 2) := by decide +kernel
theorem dX11_then_58 : decode cX11_then 58 = .ok (.iload_n 1, 1) := by decide +kernel
theorem dX11_then_59 : decode cX11_then 59 = .ok (.iadd, 1) := by decide +kernel
theorem dX11_then_60 : decode cX11_then 60 = .ok (.iaload, 1) := by decide +kernel
theorem dX11_then_61 : decode cX11_then 61 = .ok (.goto 8, 3) := by decide +kernel
theorem dX11_then_64 : decode cX11_then 64 = .ok (.aload_n 0, 1) := by decide +kernel
theorem dX11_then_65 : decode cX11_then 65 = .ok (.iload_n 1, 1) := by decide +kernel
theorem dX11_then_66 : decode cX11_then 66 = .ok (.invokevirtual 303, 3) := by decide +kernel
theorem dX11_then_69 : decode cX11_then 69 = .ok (.ireturn, 1) := by decide +kernel
set_option maxRecDepth 20000 in
theorem ggX11_next_X11_isWave : GoodIn wsX11_next wsX11_isWave := goodIn_r _ [7, 8, 9, 10, 11, 6, 12, 82, 83, 84, 85, 86, 87, 88, 89, 90, 91, 92, 93, 94, 95, 96, 97, 98, 99, 100, 101, 102, 103, 104, 105, 106, 107, 108, 109, 110, 111, 112, 113, 114, 115, 116, 117, 118, 119, 120, 121, 122, 123, 124, 125, 126, 127, 128, 129, 130, 131, 132, 133, 134, 135, 136, 137, 138, 139] (by decide +kernel) (by decide +kernel)
set_option maxRecDepth 20000 in
theorem gX11_next_X11_isWave : GoodIn wsX11_next (wsV RX11 349 RX11 yX11_isWave wsX11_isWave) := goodIn_app (goodIn_of _ (by decide +kernel)) ggX11_next_X11_isWave
set_option maxRecDepth 20000 in
theorem ggX11_next_X11_copies : GoodIn wsX11_next wsX11_copies := goodIn_r _ [16, 1, 2, 17, 9, 18, 82, 83, 84, 85, 86, 87, 88, 89, 90, 91, 92, 93, 94, 95, 96, 97, 98, 99, 100, 101, 102, 103, 104, 105, 106, 107, 108, 109, 110, 111, 112, 113, 114, 115, 116, 117, 118, 119, 120, 121, 122, 123, 124, 125, 126, 127, 128, 129, 130, 131, 132, 133, 134, 135, 136, 137, 138, 139] (by decide +kernel) (by decide +kernel)
set_option maxRecDepth 20000 in
theorem gX11_next_X11_copies : GoodIn wsX11_next (wsV RX11 352 RX11 yX11_copies wsX11_copies) := goodIn_app (goodIn_of _ (by decide +kernel)) ggX11_next_X11_copies
set_option maxRecDepth 20000 in
theorem ggX11_next_X11_yearGoes : GoodIn wsX11_next wsX11_yearGoes := goodIn_r _ [22, 8, 9, 23, 1, 24, 25, 26, 27, 6, 28, 18, 29, 30, 31, 32, 33, 34, 35, 36, 37, 38, 39, 40, 41, 42, 43, 44, 45, 46, 47, 48, 49, 50, 51, 52, 53, 54, 55, 56, 57, 58, 59, 60, 61, 62, 63, 64, 65, 66, 67, 68, 69, 70, 71, 72, 73, 74, 75, 76, 77, 78, 79, 80, 81, 82, 83, 84, 85, 86, 87, 88, 89, 90, 91, 92, 93, 94, 95, 96, 97, 98, 99, 100, 101, 102, 103, 104, 105, 106, 107, 108, 109, 110, 111, 112, 113, 114, 115, 116, 117, 118, 119, 120, 121, 122, 123, 124, 125, 126, 127, 128, 129, 130, 131, 132, 133, 134, 135, 136, 137, 138, 139] (by decide +kernel) (by decide +kernel)
set_option maxRecDepth 20000 in
theorem gX11_next_X11_yearGoes : GoodIn wsX11_next (wsV RX11 346 RX11 yX11_yearGoes wsX11_yearGoes) := goodIn_app (goodIn_of _ (by decide +kernel)) ggX11_next_X11_yearGoes
theorem dX11_next_0 : decode cX11_next 0 = .ok (.aload_n 0, 1) := by decide +kernel
theorem dX11_next_1 : decode cX11_next 1 = .ok (.iload_n 1, 1) := by decide +kernel
theorem dX11_next_2 : decode cX11_next 2 = .ok (.invokevirtual 349, 3) := by decide +kernel
theorem dX11_next_5 : decode cX11_next 5 = .ok (.ifCond .ne 5, 3) := by decide +kernel
theorem dX11_next_8 : decode cX11_next 8 = .ok (.iconst (-1), 1) := by decide +kernel
theorem dX11_next_9 : decode cX11_next 9 = .ok (.ireturn, 1) := by decide +kernel
theorem dX11_next_10 : decode cX11_next 10 = .ok (.aload_n 0, 1) := by decide +kernel
theorem dX11_next_11 : decode cX11_next 11 = .ok (.invokevirtual 352, 3) := by decide +kernel
theorem dX11_next_14 : decode cX11_next 14 = .ok (.iconst 1, 1) := by decide +kernel
theorem dX11_next_15 : decode cX11_next 15 = .ok (.istore_n 2, 1) := by decide +kernel
theorem dX11_next_16 : decode cX11_next 16 = .ok (.iload_n 2, 1) := by decide +kernel
theorem dX11_next_17 : decode cX11_next 17 = .ok (.bipush 40, 2) := by decide +kernel
theorem dX11_next_19 : decode cX11_next 19 = .ok (.if_icmp .gt 36, 3) := by decide +kernel
theorem dX11_next_22 : decode cX11_next 22 = .ok (.aload_n 0, 1) := by decide +kernel
theorem dX11_next_23 : decode cX11_next 23 = .ok (.invokevirtual 346, 3) := by decide +kernel
theorem dX11_next_26 : decode cX11_next 26 = .ok (.aload_n 0, 1) := by decide +kernel
theorem dX11_next_27 : decode cX11_next 27 = .ok (.getfield 101, 3) := by decide +kernel
theorem dX11_next_30 : decode cX11_next 30 = .ok (.bipush 10, 2) := by decide +kernel
theorem dX11_next_32 : decode cX11_next 32 = .ok (.iload_n 1, 1) := by decide +kernel
theorem dX11_next_33 : decode cX11_next 33 = .ok (.iadd, 1) := by decide +kernel
theorem dX11_next_34 : decode cX11_next 34 = .ok (.iaload, 1) := by decide +kernel
theorem dX11_next_35 : decode cX11_next 35 = .ok (.aload_n 0, 1) := by decide +kernel
theorem dX11_next_36 : decode cX11_next 36 = .ok (.getfield 98, 3) := by decide +kernel
theorem dX11_next_39 : decode cX11_next 39 = .ok (.bipush 10, 2) := by decide +kernel
theorem dX11_next_41 : decode cX11_next 41 = .ok (.iload_n 1, 1) := by decide +kernel
theorem dX11_next_42 : decode cX11_next 42 = .ok (.iadd, 1) := by decide +kernel
theorem dX11_next_43 : decode cX11_next 43 = .ok (.iaload, 1) := by decide +kernel
theorem dX11_next_44 : decode cX11_next 44 = .ok (.if_icmp .le 5, 3) := by decide +kernel
theorem dX11_next_47 : decode cX11_next 47 = .ok (.iload_n 2, 1) := by decide +kernel
theorem dX11_next_48 : decode cX11_next 48 = .ok (.ireturn, 1) := by decide +kernel
theorem dX11_next_49 : decode cX11_next 49 = .ok (.iinc 2 1, 3) := by decide +kernel
theorem dX11_next_52 : decode cX11_next 52 = .ok (.goto (-36), 3) := by decide +kernel
theorem dX11_next_55 : decode cX11_next 55 = .ok (.bipush (-2), 2) := by decide +kernel
theorem dX11_next_57 : decode cX11_next 57 = .ok (.ireturn, 1) := by decide +kernel
theorem LX11_manyIn_101 : Cond.fieldLink RX11 101 "GuessFerryModel" "row" "[I" ∈ wsX11_manyIn := by decide +kernel
theorem LX11_manyIn_215 : Cond.fieldLink RX11 215 "GuessFerryModel" "live" "I" ∈ wsX11_manyIn := by decide +kernel
theorem LX11_manyIn_49 : Cond.fieldLink RX11 49 "GuessFerryModel" "parties" "[I" ∈ wsX11_manyIn := by decide +kernel
theorem inX11_manyIn_X11 : ∀ w ∈ u_ws RX11 TX11 58, w ∈ wsX11_manyIn := fun _ h => List.mem_cons_of_mem _ (List.mem_append_right _ h)
set_option maxHeartbeats 4000000 in
set_option maxRecDepth 100000 in
theorem br_manyIn_33 {l : Launch} {dC : Nat → ClassId} {dI : Nat → Nat → Nat} {cB cI cJ cZ cS : ClassId} {h : Nat} {a : Nat → Nat} {as : List Value} {r : Int32} {s' : RS} {k4 : RS → Int32 → Int32 → Int32 → Option (Int32 × RS)} (hk4 : ∀ (s : RS) (x1 : Int32) (x2 : Int32) (x3 : Int32), k4 s x1 x2 x3 = some (r, s') → BlkI l yX11_manyIn wsX11_manyIn ({ frames := 0, cells := 0, slots := 0, locals := 0 }) cX11_manyIn 4 (some .int) (dC, dI) (tysA cB cI cJ cZ cS) as 4 (mwS cB cI cJ cZ h a s) [(0, .ref h), (1, .int x1), (2, .int x2), (3, .int x3)] [] (fun x u => x = r ∧ u = (mwS cB cI cJ cZ h a s'))) (s : RS) (x1 : Int32) (x2 : Int32) (x3 : Int32) (hB : r_manyIn_33 k4 s x1 x2 x3 = some (r, s')) : BlkI l yX11_manyIn wsX11_manyIn ({ frames := 0, cells := 0, slots := 0, locals := 0 }) cX11_manyIn 4 (some .int) (dC, dI) (tysA cB cI cJ cZ cS) as 33 (mwS cB cI cJ cZ h a s) [(0, .ref h), (1, .int x1), (2, .int x2), (3, .int x3)] [] (fun x u => x = r ∧ u = (mwS cB cI cJ cZ h a s')) := by
  intro p e s0 m below meth c A E H locs ls hP hD hS hl
  obtain ⟨C, hr, hlocks, hA, hK, hN⟩ := id E
  obtain ⟨hx, hb, hml, hown, hts⟩ := id C
  unfold r_manyIn_33 at hB
  refine lv_iinc (v := (x3 + 1)) (lv' := [(3, .int (x3 + 1)), (0, .ref h), (1, .int x1), (2, .int x2)]) hx hb dX11_manyIn_33 hl (k := 3) rfl (rfl) (by decide) rfl (fun ls hl => ?_)
  refine lv_goto (tgt := 4) hx hb dX11_manyIn_36 (by decide) ?_
  exact hk4 _ _ _ _ hB p e s0 m below meth c A E H locs ls hP hD hS (lv_sub hl [1, 2, 3, 0] rfl)
set_option maxHeartbeats 4000000 in
set_option maxRecDepth 100000 in
theorem br_manyIn_4 {l : Launch} {dC : Nat → ClassId} {dI : Nat → Nat → Nat} {cB cI cJ cZ cS : ClassId} {h : Nat} {a : Nat → Nat} {as : List Value} {r : Int32} {s' : RS} {k4 : RS → Int32 → Int32 → Int32 → Option (Int32 × RS)} (hk4 : ∀ (s : RS) (x1 : Int32) (x2 : Int32) (x3 : Int32), k4 s x1 x2 x3 = some (r, s') → BlkI l yX11_manyIn wsX11_manyIn ({ frames := 0, cells := 0, slots := 0, locals := 0 }) cX11_manyIn 4 (some .int) (dC, dI) (tysA cB cI cJ cZ cS) as 4 (mwS cB cI cJ cZ h a s) [(0, .ref h), (1, .int x1), (2, .int x2), (3, .int x3)] [] (fun x u => x = r ∧ u = (mwS cB cI cJ cZ h a s'))) (s : RS) (x1 : Int32) (x2 : Int32) (x3 : Int32) (hB : r_manyIn_4 k4 s x1 x2 x3 = some (r, s')) : BlkI l yX11_manyIn wsX11_manyIn ({ frames := 0, cells := 0, slots := 0, locals := 0 }) cX11_manyIn 4 (some .int) (dC, dI) (tysA cB cI cJ cZ cS) as 4 (mwS cB cI cJ cZ h a s) [(0, .ref h), (1, .int x1), (2, .int x2), (3, .int x3)] [] (fun x u => x = r ∧ u = (mwS cB cI cJ cZ h a s')) := by
  intro p e s0 m below meth c A E H locs ls hP hD hS hl
  obtain ⟨C, hr, hlocks, hA, hK, hN⟩ := id E
  obtain ⟨hx, hb, hml, hown, hts⟩ := id C
  unfold r_manyIn_4 at hB
  refine lv_iload_n hx hb dX11_manyIn_4 rfl (lv_at hl 3 rfl) ?_
  refine lv_aload_n hx hb dX11_manyIn_5 rfl (lv_at hl 0 rfl) ?_
  refine q_get (v := .ref (a 23)) C inX11_manyIn_X11 hK hP 0 rfl rfl 23 (by decide) rfl LX11_manyIn_49 rfl dX11_manyIn_6 ?_
  refine lv_aload_n hx hb dX11_manyIn_9 rfl (lv_at hl 0 rfl) ?_
  refine q_get (v := .int (s.v 18)) C inX11_manyIn_X11 hK hP 0 rfl rfl 18 (by decide) rfl LX11_manyIn_215 rfl dX11_manyIn_10 ?_
  obtain ⟨g1, hB⟩ := guard_inv hB
  refine q_iald (x := (s.f 23 (Int32.toNatClampNeg (s.v 18)))) C hK hP 11 1 rfl rfl (vpb_in g1) dX11_manyIn_13 rfl ?_
  refine lv_icmp_ge (tgt := 39) hx hb dX11_manyIn_14 (by decide) (fun c2 => ?_) (fun c2 => ?_)
  · have hB := if_p hB c2
    refine lv_iload_n hx hb dX11_manyIn_39 rfl (lv_at hl 2 rfl) ?_
    exact q_iret C hr hlocks hK hP hD hS (Nat.le_of_ble_eq_true rfl) (Nat.le_of_ble_eq_true rfl) dX11_manyIn_40 (by cases hB; exact ⟨rfl, rfl⟩)
  · have hB := if_n hB c2
    refine lv_aload_n hx hb dX11_manyIn_17 rfl (lv_at hl 0 rfl) ?_
    refine q_get (v := .ref (a 44)) C inX11_manyIn_X11 hK hP 0 rfl rfl 44 (by decide) rfl LX11_manyIn_101 rfl dX11_manyIn_18 ?_
    refine lv_bipush (v := 15) hx hb dX11_manyIn_21 (by decide) ?_
    refine lv_iload_n hx hb dX11_manyIn_23 rfl (lv_at hl 3 rfl) ?_
    refine lv_iadd hx hb dX11_manyIn_24 ?_
    obtain ⟨g3, hB⟩ := guard_inv hB
    refine q_iald (x := (s.f 44 (Int32.toNatClampNeg (15 + x3)))) C hK hP 28 1 rfl rfl (vpb_in g3) dX11_manyIn_25 rfl ?_
    refine lv_iload_n hx hb dX11_manyIn_26 rfl (lv_at hl 1 rfl) ?_
    refine lv_icmp_ne (tgt := 33) hx hb dX11_manyIn_27 (by decide) (fun c4 => ?_) (fun c4 => ?_)
    · have hB := if_n hB c4
      exact br_manyIn_33 (hk4) _ _ _ _ hB p e s0 m below meth c A E H locs ls hP hD hS (lv_sub hl [0, 1, 2, 3] rfl)
    · have hB := if_p hB c4
      refine lv_iinc (v := (x2 + 1)) (lv' := [(2, .int (x2 + 1)), (0, .ref h), (1, .int x1), (3, .int x3)]) hx hb dX11_manyIn_30 hl (k := 2) rfl (rfl) (by decide) rfl (fun ls hl => ?_)
      exact br_manyIn_33 (hk4) _ _ _ _ hB p e s0 m below meth c A E H locs ls hP hD hS (lv_sub hl [1, 2, 0, 3] rfl)
theorem br_manyIn_4L {l : Launch} {dC : Nat → ClassId} {dI : Nat → Nat → Nat} {cB cI cJ cZ cS : ClassId} {h : Nat} {a : Nat → Nat} {as : List Value} {r : Int32} {s' : RS} : ∀ (n : Nat) (s : RS) (x1 : Int32) (x2 : Int32) (x3 : Int32), r_manyIn_4L n s x1 x2 x3 = some (r, s') → BlkI l yX11_manyIn wsX11_manyIn ({ frames := 0, cells := 0, slots := 0, locals := 0 }) cX11_manyIn 4 (some .int) (dC, dI) (tysA cB cI cJ cZ cS) as 4 (mwS cB cI cJ cZ h a s) [(0, .ref h), (1, .int x1), (2, .int x2), (3, .int x3)] [] (fun x u => x = r ∧ u = (mwS cB cI cJ cZ h a s')) := by
  intro n
  induction n with
  | zero => intro s x1 x2 x3 hB; exact none_ne hB
  | succ n ih => intro s x1 x2 x3 hB; exact br_manyIn_4 ih _ _ _ _ hB
set_option maxHeartbeats 4000000 in
set_option maxRecDepth 100000 in
theorem br_manyIn {l : Launch} {dC : Nat → ClassId} {dI : Nat → Nat → Nat} {cB cI cJ cZ cS : ClassId} {h : Nat} {a : Nat → Nat} {as : List Value} {r : Int32} {s' : RS} (s : RS) (x1 : Int32) (hB : r_manyIn s x1 = some (r, s')) : BlkI l yX11_manyIn wsX11_manyIn ({ frames := 0, cells := 0, slots := 0, locals := 0 }) cX11_manyIn 4 (some .int) (dC, dI) (tysA cB cI cJ cZ cS) as 0 (mwS cB cI cJ cZ h a s) [(0, .ref h), (1, .int x1)] [] (fun x u => x = r ∧ u = (mwS cB cI cJ cZ h a s')) := by
  intro p e s0 m below meth c A E H locs ls hP hD hS hl
  obtain ⟨C, hr, hlocks, hA, hK, hN⟩ := id E
  obtain ⟨hx, hb, hml, hown, hts⟩ := id C
  unfold r_manyIn at hB
  refine lv_iconst (v := 0) hx hb dX11_manyIn_0 (by decide) ?_
  refine lv_istore_n (lv' := [(2, .int 0), (0, .ref h), (1, .int x1)]) hx hb dX11_manyIn_1 rfl hl (by decide) rfl (fun ls hl => ?_)
  refine lv_iconst (v := 0) hx hb dX11_manyIn_2 (by decide) ?_
  refine lv_istore_n (lv' := [(3, .int 0), (2, .int 0), (0, .ref h), (1, .int x1)]) hx hb dX11_manyIn_3 rfl hl (by decide) rfl (fun ls hl => ?_)
  exact br_manyIn_4L fu _ _ _ _ hB p e s0 m below meth c A E H locs ls hP hD hS (lv_sub hl [2, 3, 1, 0] rfl)
theorem cr_manyIn {l : Launch} {dC : Nat → ClassId} {dI : Nat → Nat → Nat} {cB cI cJ cZ cS : ClassId} {h : Nat} {a : Nat → Nat} {r : Int32} {s' : RS} {s : RS} {x1 : Int32} (hB : r_manyIn s x1 = some (r, s')) : CI l yX11_manyIn wsX11_manyIn ({ frames := 0, cells := 0, slots := 0, locals := 0 }) (dC, dI) (tysA cB cI cJ cZ cS) (mwS cB cI cJ cZ h a s) [.ref h, .int x1] (fun x u => x = r ∧ u = (mwS cB cI cJ cZ h a s')) :=
  CI_of (cc := cX11_manyIn) (maxL := 4) (ret := (some .int)) (by decide) rfl (Nat.le_of_ble_eq_true rfl) (br_manyIn _ _ hB)
theorem LX11_allGo_101 : Cond.fieldLink RX11 101 "GuessFerryModel" "row" "[I" ∈ wsX11_allGo := by decide +kernel
theorem LX11_allGo_215 : Cond.fieldLink RX11 215 "GuessFerryModel" "live" "I" ∈ wsX11_allGo := by decide +kernel
theorem LX11_allGo_40 : Cond.fieldLink RX11 40 "GuessFerryModel" "waves" "[I" ∈ wsX11_allGo := by decide +kernel
theorem LX11_allGo_49 : Cond.fieldLink RX11 49 "GuessFerryModel" "parties" "[I" ∈ wsX11_allGo := by decide +kernel
theorem LX11_allGo_98 : Cond.fieldLink RX11 98 "GuessFerryModel" "now" "[I" ∈ wsX11_allGo := by decide +kernel
theorem inX11_allGo_X11 : ∀ w ∈ u_ws RX11 TX11 58, w ∈ wsX11_allGo := by decide +kernel
set_option maxHeartbeats 4000000 in
set_option maxRecDepth 100000 in
theorem br_allGo_89 {l : Launch} {dC : Nat → ClassId} {dI : Nat → Nat → Nat} {cB cI cJ cZ cS : ClassId} {h : Nat} {a : Nat → Nat} {as : List Value} {r : Int32} {s' : RS} {k22 : RS → Int32 → Int32 → Int32 → Option (Int32 × RS)} (hk22 : ∀ (s : RS) (x1 : Int32) (x2 : Int32) (x3 : Int32), k22 s x1 x2 x3 = some (r, s') → BlkI l yX11_allGo wsX11_allGo ({ frames := 7, cells := 0, slots := 0, locals := 161 }) cX11_allGo 5 (some .int) (dC, dI) (tysA cB cI cJ cZ cS) as 22 (mwS cB cI cJ cZ h a s) [(0, .ref h), (1, .int x1), (2, .int x2), (3, .int x3)] [] (fun x u => x = r ∧ u = (mwS cB cI cJ cZ h a s'))) (s : RS) (x1 : Int32) (x2 : Int32) (x3 : Int32) (hB : r_allGo_89 k22 s x1 x2 x3 = some (r, s')) : BlkI l yX11_allGo wsX11_allGo ({ frames := 7, cells := 0, slots := 0, locals := 161 }) cX11_allGo 5 (some .int) (dC, dI) (tysA cB cI cJ cZ cS) as 89 (mwS cB cI cJ cZ h a s) [(0, .ref h), (1, .int x1), (2, .int x2), (3, .int x3)] [] (fun x u => x = r ∧ u = (mwS cB cI cJ cZ h a s')) := by
  intro p e s0 m below meth c A E H locs ls hP hD hS hl
  obtain ⟨C, hr, hlocks, hA, hK, hN⟩ := id E
  obtain ⟨hx, hb, hml, hown, hts⟩ := id C
  unfold r_allGo_89 at hB
  refine lv_iinc (v := (x3 + 1)) (lv' := [(3, .int (x3 + 1)), (0, .ref h), (1, .int x1), (2, .int x2)]) hx hb dX11_allGo_89 hl (k := 3) rfl (rfl) (by decide) rfl (fun ls hl => ?_)
  refine lv_goto (tgt := 22) hx hb dX11_allGo_92 (by decide) ?_
  exact hk22 _ _ _ _ hB p e s0 m below meth c A E H locs ls hP hD hS (lv_sub hl [1, 2, 3, 0] rfl)
set_option maxHeartbeats 4000000 in
set_option maxRecDepth 100000 in
theorem br_allGo_73 {l : Launch} {dC : Nat → ClassId} {dI : Nat → Nat → Nat} {cB cI cJ cZ cS : ClassId} {h : Nat} {a : Nat → Nat} {as : List Value} {r : Int32} {s' : RS} {k22 : RS → Int32 → Int32 → Int32 → Option (Int32 × RS)} (hk22 : ∀ (s : RS) (x1 : Int32) (x2 : Int32) (x3 : Int32), k22 s x1 x2 x3 = some (r, s') → BlkI l yX11_allGo wsX11_allGo ({ frames := 7, cells := 0, slots := 0, locals := 161 }) cX11_allGo 5 (some .int) (dC, dI) (tysA cB cI cJ cZ cS) as 22 (mwS cB cI cJ cZ h a s) [(0, .ref h), (1, .int x1), (2, .int x2), (3, .int x3)] [] (fun x u => x = r ∧ u = (mwS cB cI cJ cZ h a s'))) (s : RS) (x1 : Int32) (x2 : Int32) (x3 : Int32) (t0 : Int32) (hB : r_allGo_73 k22 s x1 x2 x3 t0 = some (r, s')) : BlkI l yX11_allGo wsX11_allGo ({ frames := 7, cells := 0, slots := 0, locals := 161 }) cX11_allGo 5 (some .int) (dC, dI) (tysA cB cI cJ cZ cS) as 73 (mwS cB cI cJ cZ h a s) [(0, .ref h), (1, .int x1), (2, .int x2), (3, .int x3)] [.int t0] (fun x u => x = r ∧ u = (mwS cB cI cJ cZ h a s')) := by
  intro p e s0 m below meth c A E H locs ls hP hD hS hl
  obtain ⟨C, hr, hlocks, hA, hK, hN⟩ := id E
  obtain ⟨hx, hb, hml, hown, hts⟩ := id C
  unfold r_allGo_73 at hB
  refine lv_istore (lv' := [(4, .int t0), (0, .ref h), (1, .int x1), (2, .int x2), (3, .int x3)]) hx hb dX11_allGo_73 hl (by decide) rfl (fun ls hl => ?_)
  refine lv_iload hx hb dX11_allGo_75 (lv_at hl 0 rfl) ?_
  refine lv_if_lt (tgt := 89) hx hb dX11_allGo_77 (by decide) (fun c1 => ?_) (fun c1 => ?_)
  · have hB := if_p hB c1
    exact br_allGo_89 (hk22) _ _ _ _ hB p e s0 m below meth c A E H locs ls hP hD hS (lv_sub hl [1, 2, 3, 4] rfl)
  · have hB := if_n hB c1
    refine lv_aload_n hx hb dX11_allGo_80 rfl (lv_at hl 1 rfl) ?_
    refine lv_iload_n hx hb dX11_allGo_81 rfl (lv_at hl 4 rfl) ?_
    refine lv_iload hx hb dX11_allGo_82 (lv_at hl 0 rfl) ?_
    refine lv_iload_n hx hb dX11_allGo_84 rfl (lv_at hl 3 rfl) ?_
    obtain ⟨q_, s2, hc, hB⟩ := bindI_inv hB
    refine q_goiF (va_runV (As := [.int x3, .int t0, .int x2]) (rest := []) C (cr_goesBy hc _) (cwV 3 hts gX11_allGo_X11_goesBy rfl rfl rfl (by decide +kernel) ⟨Nat.le_of_ble_eq_true rfl, Nat.le_of_ble_eq_true rfl⟩) (q_preV hK hP (ci := 11) (q0 := 0) rfl rfl rfl (q_preF hN hK hP hD)) rfl rfl hl.1 rfl (lv_room (Nat.le_of_ble_eq_true rfl)) dX11_allGo_85 ⟨Nat.le_of_ble_eq_true rfl, Nat.le_of_ble_eq_true rfl⟩) hD hS hA (fun r3 w1 H locs hw hP hD hS => ?_)
    obtain ⟨hq_, hw⟩ := hw; subst hw; subst hq_
    refine lv_pop hx hb dX11_allGo_88 rfl ?_
    exact br_allGo_89 (hk22) _ _ _ _ hB p e s0 m below meth c A E H locs ls hP hD hS (lv_sub hl [1, 2, 3, 4] rfl)
set_option maxHeartbeats 4000000 in
set_option maxRecDepth 100000 in
theorem br_allGo_71 {l : Launch} {dC : Nat → ClassId} {dI : Nat → Nat → Nat} {cB cI cJ cZ cS : ClassId} {h : Nat} {a : Nat → Nat} {as : List Value} {r : Int32} {s' : RS} {k22 : RS → Int32 → Int32 → Int32 → Option (Int32 × RS)} (hk22 : ∀ (s : RS) (x1 : Int32) (x2 : Int32) (x3 : Int32), k22 s x1 x2 x3 = some (r, s') → BlkI l yX11_allGo wsX11_allGo ({ frames := 7, cells := 0, slots := 0, locals := 161 }) cX11_allGo 5 (some .int) (dC, dI) (tysA cB cI cJ cZ cS) as 22 (mwS cB cI cJ cZ h a s) [(0, .ref h), (1, .int x1), (2, .int x2), (3, .int x3)] [] (fun x u => x = r ∧ u = (mwS cB cI cJ cZ h a s'))) (s : RS) (x1 : Int32) (x2 : Int32) (x3 : Int32) (hB : r_allGo_71 k22 s x1 x2 x3 = some (r, s')) : BlkI l yX11_allGo wsX11_allGo ({ frames := 7, cells := 0, slots := 0, locals := 161 }) cX11_allGo 5 (some .int) (dC, dI) (tysA cB cI cJ cZ cS) as 71 (mwS cB cI cJ cZ h a s) [(0, .ref h), (1, .int x1), (2, .int x2), (3, .int x3)] [] (fun x u => x = r ∧ u = (mwS cB cI cJ cZ h a s')) := by
  intro p e s0 m below meth c A E H locs ls hP hD hS hl
  obtain ⟨C, hr, hlocks, hA, hK, hN⟩ := id E
  obtain ⟨hx, hb, hml, hown, hts⟩ := id C
  unfold r_allGo_71 at hB
  refine lv_bipush (v := (-2)) hx hb dX11_allGo_71 (by decide) ?_
  exact br_allGo_73 (hk22) _ _ _ _ _ hB p e s0 m below meth c A E H locs ls hP hD hS (lv_sub hl [0, 1, 2, 3] rfl)
set_option maxHeartbeats 4000000 in
set_option maxRecDepth 100000 in
theorem br_allGo_22 {l : Launch} {dC : Nat → ClassId} {dI : Nat → Nat → Nat} {cB cI cJ cZ cS : ClassId} {h : Nat} {a : Nat → Nat} {as : List Value} {r : Int32} {s' : RS} {k22 : RS → Int32 → Int32 → Int32 → Option (Int32 × RS)} (hk22 : ∀ (s : RS) (x1 : Int32) (x2 : Int32) (x3 : Int32), k22 s x1 x2 x3 = some (r, s') → BlkI l yX11_allGo wsX11_allGo ({ frames := 7, cells := 0, slots := 0, locals := 161 }) cX11_allGo 5 (some .int) (dC, dI) (tysA cB cI cJ cZ cS) as 22 (mwS cB cI cJ cZ h a s) [(0, .ref h), (1, .int x1), (2, .int x2), (3, .int x3)] [] (fun x u => x = r ∧ u = (mwS cB cI cJ cZ h a s'))) (s : RS) (x1 : Int32) (x2 : Int32) (x3 : Int32) (hB : r_allGo_22 k22 s x1 x2 x3 = some (r, s')) : BlkI l yX11_allGo wsX11_allGo ({ frames := 7, cells := 0, slots := 0, locals := 161 }) cX11_allGo 5 (some .int) (dC, dI) (tysA cB cI cJ cZ cS) as 22 (mwS cB cI cJ cZ h a s) [(0, .ref h), (1, .int x1), (2, .int x2), (3, .int x3)] [] (fun x u => x = r ∧ u = (mwS cB cI cJ cZ h a s')) := by
  intro p e s0 m below meth c A E H locs ls hP hD hS hl
  obtain ⟨C, hr, hlocks, hA, hK, hN⟩ := id E
  obtain ⟨hx, hb, hml, hown, hts⟩ := id C
  unfold r_allGo_22 at hB
  refine lv_iload_n hx hb dX11_allGo_22 rfl (lv_at hl 3 rfl) ?_
  refine lv_aload_n hx hb dX11_allGo_23 rfl (lv_at hl 0 rfl) ?_
  refine q_get (v := .ref (a 23)) C inX11_allGo_X11 hK hP 0 rfl rfl 23 (by decide) rfl LX11_allGo_49 rfl dX11_allGo_24 ?_
  refine lv_aload_n hx hb dX11_allGo_27 rfl (lv_at hl 0 rfl) ?_
  refine q_get (v := .int (s.v 18)) C inX11_allGo_X11 hK hP 0 rfl rfl 18 (by decide) rfl LX11_allGo_215 rfl dX11_allGo_28 ?_
  obtain ⟨g1, hB⟩ := guard_inv hB
  refine q_iald (x := (s.f 23 (Int32.toNatClampNeg (s.v 18)))) C hK hP 11 1 rfl rfl (vpb_in g1) dX11_allGo_31 rfl ?_
  refine lv_icmp_ge (tgt := 95) hx hb dX11_allGo_32 (by decide) (fun c2 => ?_) (fun c2 => ?_)
  · have hB := if_p hB c2
    refine lv_iload_n hx hb dX11_allGo_95 rfl (lv_at hl 1 rfl) ?_
    refine lv_if_ne (tgt := 107) hx hb dX11_allGo_96 (by decide) (fun c3 => ?_) (fun c3 => ?_)
    · have hB := if_n hB c3
      refine lv_iload_n hx hb dX11_allGo_107 rfl (lv_at hl 1 rfl) ?_
      refine lv_iconst (v := 1) hx hb dX11_allGo_108 (by decide) ?_
      refine lv_icmp_ne (tgt := 120) hx hb dX11_allGo_109 (by decide) (fun c4 => ?_) (fun c4 => ?_)
      · have hB := if_n hB c4
        refine lv_aload_n hx hb dX11_allGo_120 rfl (lv_at hl 0 rfl) ?_
        refine q_get (v := .ref (a 44)) C inX11_allGo_X11 hK hP 0 rfl rfl 44 (by decide) rfl LX11_allGo_101 rfl dX11_allGo_121 ?_
        refine lv_bipush (v := 28) hx hb dX11_allGo_124 (by decide) ?_
        refine q_iald (x := (s.f 44 28)) C hK hP 28 1 rfl rfl (vp_lit (by decide +kernel)) dX11_allGo_126 rfl ?_
        refine lv_aload_n hx hb dX11_allGo_127 rfl (lv_at hl 0 rfl) ?_
        refine q_get (v := .ref (a 43)) C inX11_allGo_X11 hK hP 0 rfl rfl 43 (by decide) rfl LX11_allGo_98 rfl dX11_allGo_128 ?_
        refine lv_bipush (v := 28) hx hb dX11_allGo_131 (by decide) ?_
        refine q_iald (x := (s.f 43 28)) C hK hP 27 1 rfl rfl (vp_lit (by decide +kernel)) dX11_allGo_133 rfl ?_
        refine lv_isub hx hb dX11_allGo_134 ?_
        exact q_iret C hr hlocks hK hP hD hS (Nat.le_of_ble_eq_true rfl) (Nat.le_of_ble_eq_true rfl) dX11_allGo_135 (by cases hB; exact ⟨rfl, rfl⟩)
      · have hB := if_p hB c4
        refine lv_aload_n hx hb dX11_allGo_112 rfl (lv_at hl 0 rfl) ?_
        refine lv_iconst (v := 1) hx hb dX11_allGo_113 (by decide) ?_
        obtain ⟨q_, s5, hc, hB⟩ := bindI_inv hB
        refine q_goiF (va_runV (As := [.int 1]) (rest := []) C (cr_manyIn hc _) (cwV 1 hts gX11_allGo_X11_manyIn rfl rfl rfl (by decide +kernel) ⟨Nat.le_of_ble_eq_true rfl, Nat.le_of_ble_eq_true rfl⟩) (q_preV hK hP (ci := 11) (q0 := 0) rfl rfl rfl (q_preF hN hK hP hD)) rfl rfl hl.1 rfl (lv_room (Nat.le_of_ble_eq_true rfl)) dX11_allGo_114 ⟨Nat.le_of_ble_eq_true rfl, Nat.le_of_ble_eq_true rfl⟩) hD hS hA (fun r6 w1 H locs hw hP hD hS => ?_)
        obtain ⟨hq_, hw⟩ := hw; subst hw; subst hq_
        refine lv_goto (tgt := 135) hx hb dX11_allGo_117 (by decide) ?_
        exact q_iret C hr hlocks hK hP hD hS (Nat.le_of_ble_eq_true rfl) (Nat.le_of_ble_eq_true rfl) dX11_allGo_135 (by cases hB; exact ⟨rfl, rfl⟩)
    · have hB := if_p hB c3
      refine lv_aload_n hx hb dX11_allGo_99 rfl (lv_at hl 0 rfl) ?_
      refine lv_iconst (v := 2) hx hb dX11_allGo_100 (by decide) ?_
      obtain ⟨q_, s7, hc, hB⟩ := bindI_inv hB
      refine q_goiF (va_runV (As := [.int 2]) (rest := []) C (cr_manyIn hc _) (cwV 1 hts gX11_allGo_X11_manyIn rfl rfl rfl (by decide +kernel) ⟨Nat.le_of_ble_eq_true rfl, Nat.le_of_ble_eq_true rfl⟩) (q_preV hK hP (ci := 11) (q0 := 0) rfl rfl rfl (q_preF hN hK hP hD)) rfl rfl hl.1 rfl (lv_room (Nat.le_of_ble_eq_true rfl)) dX11_allGo_101 ⟨Nat.le_of_ble_eq_true rfl, Nat.le_of_ble_eq_true rfl⟩) hD hS hA (fun r8 w1 H locs hw hP hD hS => ?_)
      obtain ⟨hq_, hw⟩ := hw; subst hw; subst hq_
      refine lv_goto (tgt := 135) hx hb dX11_allGo_104 (by decide) ?_
      exact q_iret C hr hlocks hK hP hD hS (Nat.le_of_ble_eq_true rfl) (Nat.le_of_ble_eq_true rfl) dX11_allGo_135 (by cases hB; exact ⟨rfl, rfl⟩)
  · have hB := if_n hB c2
    refine lv_aload_n hx hb dX11_allGo_35 rfl (lv_at hl 0 rfl) ?_
    refine lv_iload_n hx hb dX11_allGo_36 rfl (lv_at hl 3 rfl) ?_
    obtain ⟨q_, s9, hc, hB⟩ := bindI_inv hB
    refine q_goiF (va_runV (As := [.int x3]) (rest := []) C (cr_isHere hc _) (cwV 1 hts gX11_allGo_X11_isHere rfl rfl rfl (by decide +kernel) ⟨Nat.le_of_ble_eq_true rfl, Nat.le_of_ble_eq_true rfl⟩) (q_preV hK hP (ci := 11) (q0 := 0) rfl rfl rfl (q_preF hN hK hP hD)) rfl rfl hl.1 rfl (lv_room (Nat.le_of_ble_eq_true rfl)) dX11_allGo_37 ⟨Nat.le_of_ble_eq_true rfl, Nat.le_of_ble_eq_true rfl⟩) hD hS hA (fun r10 w1 H locs hw hP hD hS => ?_)
    obtain ⟨hq_, hw⟩ := hw; subst hw; subst hq_
    refine lv_if_eq (tgt := 71) hx hb dX11_allGo_40 (by decide) (fun c11 => ?_) (fun c11 => ?_)
    · have hB := if_p hB c11
      exact br_allGo_71 (hk22) _ _ _ _ hB p e s0 m below meth c A E H locs ls hP hD hS (lv_sub hl [0, 1, 2, 3] rfl)
    · have hB := if_n hB c11
      refine lv_aload_n hx hb dX11_allGo_43 rfl (lv_at hl 0 rfl) ?_
      refine lv_iload_n hx hb dX11_allGo_44 rfl (lv_at hl 3 rfl) ?_
      obtain ⟨q_, s12, hc, hB⟩ := bindI_inv hB
      refine q_goiF (va_runV (As := [.int x3]) (rest := []) C (cr_doesDare hc _) (cwV 1 hts gX11_allGo_X11_doesDare rfl rfl rfl (by decide +kernel) ⟨Nat.le_of_ble_eq_true rfl, Nat.le_of_ble_eq_true rfl⟩) (q_preV hK hP (ci := 11) (q0 := 0) rfl rfl rfl (q_preF hN hK hP hD)) rfl rfl hl.1 rfl (lv_room (Nat.le_of_ble_eq_true rfl)) dX11_allGo_45 ⟨Nat.le_of_ble_eq_true rfl, Nat.le_of_ble_eq_true rfl⟩) hD hS hA (fun r13 w1 H locs hw hP hD hS => ?_)
      obtain ⟨hq_, hw⟩ := hw; subst hw; subst hq_
      refine lv_if_eq (tgt := 71) hx hb dX11_allGo_48 (by decide) (fun c14 => ?_) (fun c14 => ?_)
      · have hB := if_p hB c14
        exact br_allGo_71 (hk22) _ _ _ _ hB p e s0 m below meth c A E H locs ls hP hD hS (lv_sub hl [0, 1, 2, 3] rfl)
      · have hB := if_n hB c14
        refine lv_aload_n hx hb dX11_allGo_51 rfl (lv_at hl 0 rfl) ?_
        refine q_get (v := .ref (a 20)) C inX11_allGo_X11 hK hP 0 rfl rfl 20 (by decide) rfl LX11_allGo_40 rfl dX11_allGo_52 ?_
        refine lv_aload_n hx hb dX11_allGo_55 rfl (lv_at hl 0 rfl) ?_
        refine q_get (v := .int (s12.v 18)) C inX11_allGo_X11 hK hP 0 rfl rfl 18 (by decide) rfl LX11_allGo_215 rfl dX11_allGo_56 ?_
        obtain ⟨g15, hB⟩ := guard_inv hB
        refine q_iald (x := (s12.f 20 (Int32.toNatClampNeg (s12.v 18)))) C hK hP 8 1 rfl rfl (vpb_in g15) dX11_allGo_59 rfl ?_
        refine lv_if_le (tgt := 71) hx hb dX11_allGo_60 (by decide) (fun c16 => ?_) (fun c16 => ?_)
        · have hB := if_p hB c16
          exact br_allGo_71 (hk22) _ _ _ _ hB p e s0 m below meth c A E H locs ls hP hD hS (lv_sub hl [0, 1, 2, 3] rfl)
        · have hB := if_n hB c16
          refine lv_aload_n hx hb dX11_allGo_63 rfl (lv_at hl 0 rfl) ?_
          refine lv_iload_n hx hb dX11_allGo_64 rfl (lv_at hl 3 rfl) ?_
          obtain ⟨q_, s17, hc, hB⟩ := bindI_inv hB
          refine q_goiF (va_runV (As := [.int x3]) (rest := []) C (cr_bestFor hc _) (cwV 1 hts gX11_allGo_X11_bestFor rfl rfl rfl (by decide +kernel) ⟨Nat.le_of_ble_eq_true rfl, Nat.le_of_ble_eq_true rfl⟩) (q_preV hK hP (ci := 11) (q0 := 0) rfl rfl rfl (q_preF hN hK hP hD)) rfl rfl hl.1 rfl (lv_room (Nat.le_of_ble_eq_true rfl)) dX11_allGo_65 ⟨Nat.le_of_ble_eq_true rfl, Nat.le_of_ble_eq_true rfl⟩) hD hS hA (fun r18 w1 H locs hw hP hD hS => ?_)
          obtain ⟨hq_, hw⟩ := hw; subst hw; subst hq_
          refine lv_goto (tgt := 73) hx hb dX11_allGo_68 (by decide) ?_
          exact br_allGo_73 (hk22) _ _ _ _ _ hB p e s0 m below meth c A E H locs ls hP hD hS (lv_sub hl [0, 1, 2, 3] rfl)
theorem br_allGo_22L {l : Launch} {dC : Nat → ClassId} {dI : Nat → Nat → Nat} {cB cI cJ cZ cS : ClassId} {h : Nat} {a : Nat → Nat} {as : List Value} {r : Int32} {s' : RS} : ∀ (n : Nat) (s : RS) (x1 : Int32) (x2 : Int32) (x3 : Int32), r_allGo_22L n s x1 x2 x3 = some (r, s') → BlkI l yX11_allGo wsX11_allGo ({ frames := 7, cells := 0, slots := 0, locals := 161 }) cX11_allGo 5 (some .int) (dC, dI) (tysA cB cI cJ cZ cS) as 22 (mwS cB cI cJ cZ h a s) [(0, .ref h), (1, .int x1), (2, .int x2), (3, .int x3)] [] (fun x u => x = r ∧ u = (mwS cB cI cJ cZ h a s')) := by
  intro n
  induction n with
  | zero => intro s x1 x2 x3 hB; exact none_ne hB
  | succ n ih => intro s x1 x2 x3 hB; exact br_allGo_22 ih _ _ _ _ hB
set_option maxHeartbeats 4000000 in
set_option maxRecDepth 100000 in
theorem br_allGo {l : Launch} {dC : Nat → ClassId} {dI : Nat → Nat → Nat} {cB cI cJ cZ cS : ClassId} {h : Nat} {a : Nat → Nat} {as : List Value} {r : Int32} {s' : RS} (s : RS) (x1 : Int32) (hB : r_allGo s x1 = some (r, s')) : BlkI l yX11_allGo wsX11_allGo ({ frames := 7, cells := 0, slots := 0, locals := 161 }) cX11_allGo 5 (some .int) (dC, dI) (tysA cB cI cJ cZ cS) as 0 (mwS cB cI cJ cZ h a s) [(0, .ref h), (1, .int x1)] [] (fun x u => x = r ∧ u = (mwS cB cI cJ cZ h a s')) := by
  intro p e s0 m below meth c A E H locs ls hP hD hS hl
  obtain ⟨C, hr, hlocks, hA, hK, hN⟩ := id E
  obtain ⟨hx, hb, hml, hown, hts⟩ := id C
  unfold r_allGo at hB
  refine lv_iload_n hx hb dX11_allGo_0 rfl (lv_at hl 1 rfl) ?_
  refine lv_iconst (v := 0) hx hb dX11_allGo_1 (by decide) ?_
  refine lv_iconst (v := 2) hx hb dX11_allGo_2 (by decide) ?_
  obtain ⟨q_, hc, hB⟩ := bindP_inv hB
  refine q_goi0 (va_runS (As := [.int x1, .int 0, .int 2]) (rest := []) C (cr_in hc _) (va_cwS 3 hts gX11_allGo_X11_in rfl rfl rfl (by decide +kernel) ⟨Nat.le_of_ble_eq_true rfl, Nat.le_of_ble_eq_true rfl⟩) (q_pre0 hN hK) rfl rfl hl.1 rfl (lv_room (Nat.le_of_ble_eq_true rfl)) dX11_allGo_3 ⟨Nat.le_of_ble_eq_true rfl, Nat.le_of_ble_eq_true rfl⟩) hP hD hS hA (fun r1 w1 H locs hw hP hS => ?_)
  subst hw
  refine lv_if_ne (tgt := 11) hx hb dX11_allGo_6 (by decide) (fun c2 => ?_) (fun c2 => ?_)
  · have hB := if_n hB c2
    refine lv_aload_n hx hb dX11_allGo_11 rfl (lv_at hl 0 rfl) ?_
    obtain ⟨s3, hc, hB⟩ := bindP_inv hB
    refine q_govF (va_runV (As := []) (rest := []) C (cr_copies hc _) (cwV 0 hts gX11_allGo_X11_copies rfl rfl rfl (by decide +kernel) ⟨Nat.le_of_ble_eq_true rfl, Nat.le_of_ble_eq_true rfl⟩) (q_preV hK hP (ci := 11) (q0 := 0) rfl rfl rfl (q_preF hN hK hP hD)) rfl rfl hl.1 rfl (lv_room (Nat.le_of_ble_eq_true rfl)) dX11_allGo_12 ⟨Nat.le_of_ble_eq_true rfl, Nat.le_of_ble_eq_true rfl⟩) hD hS hA (fun w1 H locs hw hP hD hS => ?_)
    subst hw
    refine lv_aload_n hx hb dX11_allGo_15 rfl (lv_at hl 0 rfl) ?_
    obtain ⟨q_, s4, hc, hB⟩ := bindI_inv hB
    refine q_goiF (va_runV (As := []) (rest := []) C (cr_thereNumber hc _) (cwV 0 hts gX11_allGo_X11_thereNumber rfl rfl rfl (by decide +kernel) ⟨Nat.le_of_ble_eq_true rfl, Nat.le_of_ble_eq_true rfl⟩) (q_preV hK hP (ci := 11) (q0 := 0) rfl rfl rfl (q_preF hN hK hP hD)) rfl rfl hl.1 rfl (lv_room (Nat.le_of_ble_eq_true rfl)) dX11_allGo_16 ⟨Nat.le_of_ble_eq_true rfl, Nat.le_of_ble_eq_true rfl⟩) hD hS hA (fun r5 w1 H locs hw hP hD hS => ?_)
    obtain ⟨hq_, hw⟩ := hw; subst hw; subst hq_
    refine lv_istore_n (lv' := [(2, .int r5), (0, .ref h), (1, .int x1)]) hx hb dX11_allGo_19 rfl hl (by decide) rfl (fun ls hl => ?_)
    refine lv_iconst (v := 0) hx hb dX11_allGo_20 (by decide) ?_
    refine lv_istore_n (lv' := [(3, .int 0), (2, .int r5), (0, .ref h), (1, .int x1)]) hx hb dX11_allGo_21 rfl hl (by decide) rfl (fun ls hl => ?_)
    exact br_allGo_22L fu _ _ _ _ hB p e s0 m below meth c A E H locs ls hP hD hS (lv_sub hl [2, 3, 1, 0] rfl)
  · have hB := if_p hB c2
    refine lv_iconst (v := (-1)) hx hb dX11_allGo_9 (by decide) ?_
    exact q_iret C hr hlocks hK hP hD hS (Nat.le_of_ble_eq_true rfl) (Nat.le_of_ble_eq_true rfl) dX11_allGo_10 (by cases hB; exact ⟨rfl, rfl⟩)
theorem cr_allGo {l : Launch} {dC : Nat → ClassId} {dI : Nat → Nat → Nat} {cB cI cJ cZ cS : ClassId} {h : Nat} {a : Nat → Nat} {r : Int32} {s' : RS} {s : RS} {x1 : Int32} (hB : r_allGo s x1 = some (r, s')) : CI l yX11_allGo wsX11_allGo ({ frames := 7, cells := 0, slots := 0, locals := 161 }) (dC, dI) (tysA cB cI cJ cZ cS) (mwS cB cI cJ cZ h a s) [.ref h, .int x1] (fun x u => x = r ∧ u = (mwS cB cI cJ cZ h a s')) :=
  CI_of (cc := cX11_allGo) (maxL := 5) (ret := (some .int)) (by decide) rfl (Nat.le_of_ble_eq_true rfl) (br_allGo _ _ hB)
theorem LX11_darers_215 : Cond.fieldLink RX11 215 "GuessFerryModel" "live" "I" ∈ wsX11_darers := by decide +kernel
theorem LX11_darers_49 : Cond.fieldLink RX11 49 "GuessFerryModel" "parties" "[I" ∈ wsX11_darers := by decide +kernel
theorem inX11_darers_X11 : ∀ w ∈ u_ws RX11 TX11 58, w ∈ wsX11_darers := by decide +kernel
set_option maxHeartbeats 4000000 in
set_option maxRecDepth 100000 in
theorem br_darers_43 {l : Launch} {dC : Nat → ClassId} {dI : Nat → Nat → Nat} {cB cI cJ cZ cS : ClassId} {h : Nat} {a : Nat → Nat} {as : List Value} {r : Int32} {s' : RS} {k8 : RS → Int32 → Int32 → Option (Int32 × RS)} (hk8 : ∀ (s : RS) (x1 : Int32) (x2 : Int32), k8 s x1 x2 = some (r, s') → BlkI l yX11_darers wsX11_darers ({ frames := 3, cells := 0, slots := 0, locals := 74 }) cX11_darers 3 (some .int) (dC, dI) (tysA cB cI cJ cZ cS) as 8 (mwS cB cI cJ cZ h a s) [(0, .ref h), (1, .int x1), (2, .int x2)] [] (fun x u => x = r ∧ u = (mwS cB cI cJ cZ h a s'))) (s : RS) (x1 : Int32) (x2 : Int32) (hB : r_darers_43 k8 s x1 x2 = some (r, s')) : BlkI l yX11_darers wsX11_darers ({ frames := 3, cells := 0, slots := 0, locals := 74 }) cX11_darers 3 (some .int) (dC, dI) (tysA cB cI cJ cZ cS) as 43 (mwS cB cI cJ cZ h a s) [(0, .ref h), (1, .int x1), (2, .int x2)] [] (fun x u => x = r ∧ u = (mwS cB cI cJ cZ h a s')) := by
  intro p e s0 m below meth c A E H locs ls hP hD hS hl
  obtain ⟨C, hr, hlocks, hA, hK, hN⟩ := id E
  obtain ⟨hx, hb, hml, hown, hts⟩ := id C
  unfold r_darers_43 at hB
  refine lv_iinc (v := (x2 + 1)) (lv' := [(2, .int (x2 + 1)), (0, .ref h), (1, .int x1)]) hx hb dX11_darers_43 hl (k := 2) rfl (rfl) (by decide) rfl (fun ls hl => ?_)
  refine lv_goto (tgt := 8) hx hb dX11_darers_46 (by decide) ?_
  exact hk8 _ _ _ hB p e s0 m below meth c A E H locs ls hP hD hS (lv_sub hl [1, 2, 0] rfl)
set_option maxHeartbeats 4000000 in
set_option maxRecDepth 100000 in
theorem br_darers_8 {l : Launch} {dC : Nat → ClassId} {dI : Nat → Nat → Nat} {cB cI cJ cZ cS : ClassId} {h : Nat} {a : Nat → Nat} {as : List Value} {r : Int32} {s' : RS} {k8 : RS → Int32 → Int32 → Option (Int32 × RS)} (hk8 : ∀ (s : RS) (x1 : Int32) (x2 : Int32), k8 s x1 x2 = some (r, s') → BlkI l yX11_darers wsX11_darers ({ frames := 3, cells := 0, slots := 0, locals := 74 }) cX11_darers 3 (some .int) (dC, dI) (tysA cB cI cJ cZ cS) as 8 (mwS cB cI cJ cZ h a s) [(0, .ref h), (1, .int x1), (2, .int x2)] [] (fun x u => x = r ∧ u = (mwS cB cI cJ cZ h a s'))) (s : RS) (x1 : Int32) (x2 : Int32) (hB : r_darers_8 k8 s x1 x2 = some (r, s')) : BlkI l yX11_darers wsX11_darers ({ frames := 3, cells := 0, slots := 0, locals := 74 }) cX11_darers 3 (some .int) (dC, dI) (tysA cB cI cJ cZ cS) as 8 (mwS cB cI cJ cZ h a s) [(0, .ref h), (1, .int x1), (2, .int x2)] [] (fun x u => x = r ∧ u = (mwS cB cI cJ cZ h a s')) := by
  intro p e s0 m below meth c A E H locs ls hP hD hS hl
  obtain ⟨C, hr, hlocks, hA, hK, hN⟩ := id E
  obtain ⟨hx, hb, hml, hown, hts⟩ := id C
  unfold r_darers_8 at hB
  refine lv_iload_n hx hb dX11_darers_8 rfl (lv_at hl 2 rfl) ?_
  refine lv_aload_n hx hb dX11_darers_9 rfl (lv_at hl 0 rfl) ?_
  refine q_get (v := .ref (a 23)) C inX11_darers_X11 hK hP 0 rfl rfl 23 (by decide) rfl LX11_darers_49 rfl dX11_darers_10 ?_
  refine lv_aload_n hx hb dX11_darers_13 rfl (lv_at hl 0 rfl) ?_
  refine q_get (v := .int (s.v 18)) C inX11_darers_X11 hK hP 0 rfl rfl 18 (by decide) rfl LX11_darers_215 rfl dX11_darers_14 ?_
  obtain ⟨g1, hB⟩ := guard_inv hB
  refine q_iald (x := (s.f 23 (Int32.toNatClampNeg (s.v 18)))) C hK hP 11 1 rfl rfl (vpb_in g1) dX11_darers_17 rfl ?_
  refine lv_icmp_ge (tgt := 49) hx hb dX11_darers_18 (by decide) (fun c2 => ?_) (fun c2 => ?_)
  · have hB := if_p hB c2
    refine lv_iload_n hx hb dX11_darers_49 rfl (lv_at hl 1 rfl) ?_
    exact q_iret C hr hlocks hK hP hD hS (Nat.le_of_ble_eq_true rfl) (Nat.le_of_ble_eq_true rfl) dX11_darers_50 (by cases hB; exact ⟨rfl, rfl⟩)
  · have hB := if_n hB c2
    refine lv_aload_n hx hb dX11_darers_21 rfl (lv_at hl 0 rfl) ?_
    refine lv_iload_n hx hb dX11_darers_22 rfl (lv_at hl 2 rfl) ?_
    obtain ⟨q_, s3, hc, hB⟩ := bindI_inv hB
    refine q_goiF (va_runV (As := [.int x2]) (rest := []) C (cr_isHere hc _) (cwV 1 hts gX11_darers_X11_isHere rfl rfl rfl (by decide +kernel) ⟨Nat.le_of_ble_eq_true rfl, Nat.le_of_ble_eq_true rfl⟩) (q_preV hK hP (ci := 11) (q0 := 0) rfl rfl rfl (q_preF hN hK hP hD)) rfl rfl hl.1 rfl (lv_room (Nat.le_of_ble_eq_true rfl)) dX11_darers_23 ⟨Nat.le_of_ble_eq_true rfl, Nat.le_of_ble_eq_true rfl⟩) hD hS hA (fun r4 w1 H locs hw hP hD hS => ?_)
    obtain ⟨hq_, hw⟩ := hw; subst hw; subst hq_
    refine lv_if_eq (tgt := 43) hx hb dX11_darers_26 (by decide) (fun c5 => ?_) (fun c5 => ?_)
    · have hB := if_p hB c5
      exact br_darers_43 (hk8) _ _ _ hB p e s0 m below meth c A E H locs ls hP hD hS (lv_sub hl [0, 1, 2] rfl)
    · have hB := if_n hB c5
      refine lv_aload_n hx hb dX11_darers_29 rfl (lv_at hl 0 rfl) ?_
      refine lv_iload_n hx hb dX11_darers_30 rfl (lv_at hl 2 rfl) ?_
      obtain ⟨q_, s6, hc, hB⟩ := bindI_inv hB
      refine q_goiF (va_runV (As := [.int x2]) (rest := []) C (cr_doesDare hc _) (cwV 1 hts gX11_darers_X11_doesDare rfl rfl rfl (by decide +kernel) ⟨Nat.le_of_ble_eq_true rfl, Nat.le_of_ble_eq_true rfl⟩) (q_preV hK hP (ci := 11) (q0 := 0) rfl rfl rfl (q_preF hN hK hP hD)) rfl rfl hl.1 rfl (lv_room (Nat.le_of_ble_eq_true rfl)) dX11_darers_31 ⟨Nat.le_of_ble_eq_true rfl, Nat.le_of_ble_eq_true rfl⟩) hD hS hA (fun r7 w1 H locs hw hP hD hS => ?_)
      obtain ⟨hq_, hw⟩ := hw; subst hw; subst hq_
      refine lv_if_eq (tgt := 43) hx hb dX11_darers_34 (by decide) (fun c8 => ?_) (fun c8 => ?_)
      · have hB := if_p hB c8
        exact br_darers_43 (hk8) _ _ _ hB p e s0 m below meth c A E H locs ls hP hD hS (lv_sub hl [0, 1, 2] rfl)
      · have hB := if_n hB c8
        refine lv_iload_n hx hb dX11_darers_37 rfl (lv_at hl 1 rfl) ?_
        refine lv_iconst (v := 1) hx hb dX11_darers_38 (by decide) ?_
        refine lv_iload_n hx hb dX11_darers_39 rfl (lv_at hl 2 rfl) ?_
        refine lv_ishl hx hb dX11_darers_40 ?_
        refine lv_ior hx hb dX11_darers_41 ?_
        refine lv_istore_n (lv' := [(1, .int (x1 ||| (1 <<< (x2 &&& 31)))), (0, .ref h), (2, .int x2)]) hx hb dX11_darers_42 rfl hl (by decide) rfl (fun ls hl => ?_)
        exact br_darers_43 (hk8) _ _ _ hB p e s0 m below meth c A E H locs ls hP hD hS (lv_sub hl [1, 0, 2] rfl)
theorem br_darers_8L {l : Launch} {dC : Nat → ClassId} {dI : Nat → Nat → Nat} {cB cI cJ cZ cS : ClassId} {h : Nat} {a : Nat → Nat} {as : List Value} {r : Int32} {s' : RS} : ∀ (n : Nat) (s : RS) (x1 : Int32) (x2 : Int32), r_darers_8L n s x1 x2 = some (r, s') → BlkI l yX11_darers wsX11_darers ({ frames := 3, cells := 0, slots := 0, locals := 74 }) cX11_darers 3 (some .int) (dC, dI) (tysA cB cI cJ cZ cS) as 8 (mwS cB cI cJ cZ h a s) [(0, .ref h), (1, .int x1), (2, .int x2)] [] (fun x u => x = r ∧ u = (mwS cB cI cJ cZ h a s')) := by
  intro n
  induction n with
  | zero => intro s x1 x2 hB; exact none_ne hB
  | succ n ih => intro s x1 x2 hB; exact br_darers_8 ih _ _ _ hB
set_option maxHeartbeats 4000000 in
set_option maxRecDepth 100000 in
theorem br_darers {l : Launch} {dC : Nat → ClassId} {dI : Nat → Nat → Nat} {cB cI cJ cZ cS : ClassId} {h : Nat} {a : Nat → Nat} {as : List Value} {r : Int32} {s' : RS} (s : RS) (hB : r_darers s = some (r, s')) : BlkI l yX11_darers wsX11_darers ({ frames := 3, cells := 0, slots := 0, locals := 74 }) cX11_darers 3 (some .int) (dC, dI) (tysA cB cI cJ cZ cS) as 0 (mwS cB cI cJ cZ h a s) [(0, .ref h)] [] (fun x u => x = r ∧ u = (mwS cB cI cJ cZ h a s')) := by
  intro p e s0 m below meth c A E H locs ls hP hD hS hl
  obtain ⟨C, hr, hlocks, hA, hK, hN⟩ := id E
  obtain ⟨hx, hb, hml, hown, hts⟩ := id C
  unfold r_darers at hB
  refine lv_aload_n hx hb dX11_darers_0 rfl (lv_at hl 0 rfl) ?_
  obtain ⟨s1, hc, hB⟩ := bindP_inv hB
  refine q_govF (va_runV (As := []) (rest := []) C (cr_copies hc _) (cwV 0 hts gX11_darers_X11_copies rfl rfl rfl (by decide +kernel) ⟨Nat.le_of_ble_eq_true rfl, Nat.le_of_ble_eq_true rfl⟩) (q_preV hK hP (ci := 11) (q0 := 0) rfl rfl rfl (q_preF hN hK hP hD)) rfl rfl hl.1 rfl (lv_room (Nat.le_of_ble_eq_true rfl)) dX11_darers_1 ⟨Nat.le_of_ble_eq_true rfl, Nat.le_of_ble_eq_true rfl⟩) hD hS hA (fun w1 H locs hw hP hD hS => ?_)
  subst hw
  refine lv_iconst (v := 0) hx hb dX11_darers_4 (by decide) ?_
  refine lv_istore_n (lv' := [(1, .int 0), (0, .ref h)]) hx hb dX11_darers_5 rfl hl (by decide) rfl (fun ls hl => ?_)
  refine lv_iconst (v := 0) hx hb dX11_darers_6 (by decide) ?_
  refine lv_istore_n (lv' := [(2, .int 0), (1, .int 0), (0, .ref h)]) hx hb dX11_darers_7 rfl hl (by decide) rfl (fun ls hl => ?_)
  exact br_darers_8L fu _ _ _ hB p e s0 m below meth c A E H locs ls hP hD hS (lv_sub hl [2, 1, 0] rfl)
theorem cr_darers {l : Launch} {dC : Nat → ClassId} {dI : Nat → Nat → Nat} {cB cI cJ cZ cS : ClassId} {h : Nat} {a : Nat → Nat} {r : Int32} {s' : RS} {s : RS} (hB : r_darers s = some (r, s')) : CI l yX11_darers wsX11_darers ({ frames := 3, cells := 0, slots := 0, locals := 74 }) (dC, dI) (tysA cB cI cJ cZ cS) (mwS cB cI cJ cZ h a s) [.ref h] (fun x u => x = r ∧ u = (mwS cB cI cJ cZ h a s')) :=
  CI_of (cc := cX11_darers) (maxL := 3) (ret := (some .int)) (by decide) rfl (Nat.le_of_ble_eq_true rfl) (br_darers _ hB)
theorem LX11_open_215 : Cond.fieldLink RX11 215 "GuessFerryModel" "live" "I" ∈ wsX11_open := by decide +kernel
theorem LX11_open_40 : Cond.fieldLink RX11 40 "GuessFerryModel" "waves" "[I" ∈ wsX11_open := by decide +kernel
theorem inX11_open_X11 : ∀ w ∈ u_ws RX11 TX11 58, w ∈ wsX11_open := fun _ h => List.mem_cons_of_mem _ (List.mem_append_right _ h)
set_option maxHeartbeats 4000000 in
set_option maxRecDepth 100000 in
theorem br_open_39 {l : Launch} {dC : Nat → ClassId} {dI : Nat → Nat → Nat} {cB cI cJ cZ cS : ClassId} {h : Nat} {a : Nat → Nat} {as : List Value} {r : Int32} {s' : RS} {k8 : RS → Int32 → Int32 → Option (Int32 × RS)} (hk8 : ∀ (s : RS) (x1 : Int32) (x2 : Int32), k8 s x1 x2 = some (r, s') → BlkI l yX11_open wsX11_open ({ frames := 2, cells := 0, slots := 0, locals := 45 }) cX11_open 3 (some .int) (dC, dI) (tysA cB cI cJ cZ cS) as 8 (mwS cB cI cJ cZ h a s) [(0, .ref h), (1, .int x1), (2, .int x2)] [] (fun x u => x = r ∧ u = (mwS cB cI cJ cZ h a s'))) (s : RS) (x1 : Int32) (x2 : Int32) (hB : r_open_39 k8 s x1 x2 = some (r, s')) : BlkI l yX11_open wsX11_open ({ frames := 2, cells := 0, slots := 0, locals := 45 }) cX11_open 3 (some .int) (dC, dI) (tysA cB cI cJ cZ cS) as 39 (mwS cB cI cJ cZ h a s) [(0, .ref h), (1, .int x1), (2, .int x2)] [] (fun x u => x = r ∧ u = (mwS cB cI cJ cZ h a s')) := by
  intro p e s0 m below meth c A E H locs ls hP hD hS hl
  obtain ⟨C, hr, hlocks, hA, hK, hN⟩ := id E
  obtain ⟨hx, hb, hml, hown, hts⟩ := id C
  unfold r_open_39 at hB
  refine lv_iinc (v := (x2 + 1)) (lv' := [(2, .int (x2 + 1)), (0, .ref h), (1, .int x1)]) hx hb dX11_open_39 hl (k := 2) rfl (rfl) (by decide) rfl (fun ls hl => ?_)
  refine lv_goto (tgt := 8) hx hb dX11_open_42 (by decide) ?_
  exact hk8 _ _ _ hB p e s0 m below meth c A E H locs ls hP hD hS (lv_sub hl [1, 2, 0] rfl)
set_option maxHeartbeats 4000000 in
set_option maxRecDepth 100000 in
theorem br_open_8 {l : Launch} {dC : Nat → ClassId} {dI : Nat → Nat → Nat} {cB cI cJ cZ cS : ClassId} {h : Nat} {a : Nat → Nat} {as : List Value} {r : Int32} {s' : RS} {k8 : RS → Int32 → Int32 → Option (Int32 × RS)} (hk8 : ∀ (s : RS) (x1 : Int32) (x2 : Int32), k8 s x1 x2 = some (r, s') → BlkI l yX11_open wsX11_open ({ frames := 2, cells := 0, slots := 0, locals := 45 }) cX11_open 3 (some .int) (dC, dI) (tysA cB cI cJ cZ cS) as 8 (mwS cB cI cJ cZ h a s) [(0, .ref h), (1, .int x1), (2, .int x2)] [] (fun x u => x = r ∧ u = (mwS cB cI cJ cZ h a s'))) (s : RS) (x1 : Int32) (x2 : Int32) (hB : r_open_8 k8 s x1 x2 = some (r, s')) : BlkI l yX11_open wsX11_open ({ frames := 2, cells := 0, slots := 0, locals := 45 }) cX11_open 3 (some .int) (dC, dI) (tysA cB cI cJ cZ cS) as 8 (mwS cB cI cJ cZ h a s) [(0, .ref h), (1, .int x1), (2, .int x2)] [] (fun x u => x = r ∧ u = (mwS cB cI cJ cZ h a s')) := by
  intro p e s0 m below meth c A E H locs ls hP hD hS hl
  obtain ⟨C, hr, hlocks, hA, hK, hN⟩ := id E
  obtain ⟨hx, hb, hml, hown, hts⟩ := id C
  unfold r_open_8 at hB
  refine lv_iload_n hx hb dX11_open_8 rfl (lv_at hl 2 rfl) ?_
  refine lv_aload_n hx hb dX11_open_9 rfl (lv_at hl 0 rfl) ?_
  refine q_get (v := .ref (a 20)) C inX11_open_X11 hK hP 0 rfl rfl 20 (by decide) rfl LX11_open_40 rfl dX11_open_10 ?_
  refine lv_aload_n hx hb dX11_open_13 rfl (lv_at hl 0 rfl) ?_
  refine q_get (v := .int (s.v 18)) C inX11_open_X11 hK hP 0 rfl rfl 18 (by decide) rfl LX11_open_215 rfl dX11_open_14 ?_
  obtain ⟨g1, hB⟩ := guard_inv hB
  refine q_iald (x := (s.f 20 (Int32.toNatClampNeg (s.v 18)))) C hK hP 8 1 rfl rfl (vpb_in g1) dX11_open_17 rfl ?_
  refine lv_icmp_ge (tgt := 45) hx hb dX11_open_18 (by decide) (fun c2 => ?_) (fun c2 => ?_)
  · have hB := if_p hB c2
    refine lv_iload_n hx hb dX11_open_45 rfl (lv_at hl 1 rfl) ?_
    exact q_iret C hr hlocks hK hP hD hS (Nat.le_of_ble_eq_true rfl) (Nat.le_of_ble_eq_true rfl) dX11_open_46 (by cases hB; exact ⟨rfl, rfl⟩)
  · have hB := if_n hB c2
    refine lv_aload_n hx hb dX11_open_21 rfl (lv_at hl 0 rfl) ?_
    refine lv_iload_n hx hb dX11_open_22 rfl (lv_at hl 2 rfl) ?_
    obtain ⟨q_, s3, hc, hB⟩ := bindI_inv hB
    refine q_goiF (va_runV (As := [.int x2]) (rest := []) C (cr_mayAt hc _) (cwV 1 hts gX11_open_X11_mayAt rfl rfl rfl (by decide +kernel) ⟨Nat.le_of_ble_eq_true rfl, Nat.le_of_ble_eq_true rfl⟩) (q_preV hK hP (ci := 11) (q0 := 0) rfl rfl rfl (q_preF hN hK hP hD)) rfl rfl hl.1 rfl (lv_room (Nat.le_of_ble_eq_true rfl)) dX11_open_23 ⟨Nat.le_of_ble_eq_true rfl, Nat.le_of_ble_eq_true rfl⟩) hD hS hA (fun r4 w1 H locs hw hP hD hS => ?_)
    obtain ⟨hq_, hw⟩ := hw; subst hw; subst hq_
    obtain ⟨q_, hc, hB⟩ := bindP_inv hB
    refine q_goi0 (va_runS (As := [.int r4]) (rest := []) C (cr_bits hc _) (va_cwS 1 hts gX11_open_X11_bits rfl rfl rfl (by decide +kernel) ⟨Nat.le_of_ble_eq_true rfl, Nat.le_of_ble_eq_true rfl⟩) (q_pre0 hN hK) rfl rfl hl.1 rfl (lv_room (Nat.le_of_ble_eq_true rfl)) dX11_open_26 ⟨Nat.le_of_ble_eq_true rfl, Nat.le_of_ble_eq_true rfl⟩) hP hD hS hA (fun r5 w1 H locs hw hP hS => ?_)
    subst hw
    refine lv_iconst (v := 1) hx hb dX11_open_29 (by decide) ?_
    refine lv_icmp_le (tgt := 39) hx hb dX11_open_30 (by decide) (fun c6 => ?_) (fun c6 => ?_)
    · have hB := if_p hB c6
      exact br_open_39 (hk8) _ _ _ hB p e s0 m below meth c A E H locs ls hP hD hS (lv_sub hl [0, 1, 2] rfl)
    · have hB := if_n hB c6
      refine lv_iload_n hx hb dX11_open_33 rfl (lv_at hl 1 rfl) ?_
      refine lv_iconst (v := 1) hx hb dX11_open_34 (by decide) ?_
      refine lv_iload_n hx hb dX11_open_35 rfl (lv_at hl 2 rfl) ?_
      refine lv_ishl hx hb dX11_open_36 ?_
      refine lv_ior hx hb dX11_open_37 ?_
      refine lv_istore_n (lv' := [(1, .int (x1 ||| (1 <<< (x2 &&& 31)))), (0, .ref h), (2, .int x2)]) hx hb dX11_open_38 rfl hl (by decide) rfl (fun ls hl => ?_)
      exact br_open_39 (hk8) _ _ _ hB p e s0 m below meth c A E H locs ls hP hD hS (lv_sub hl [1, 0, 2] rfl)
theorem br_open_8L {l : Launch} {dC : Nat → ClassId} {dI : Nat → Nat → Nat} {cB cI cJ cZ cS : ClassId} {h : Nat} {a : Nat → Nat} {as : List Value} {r : Int32} {s' : RS} : ∀ (n : Nat) (s : RS) (x1 : Int32) (x2 : Int32), r_open_8L n s x1 x2 = some (r, s') → BlkI l yX11_open wsX11_open ({ frames := 2, cells := 0, slots := 0, locals := 45 }) cX11_open 3 (some .int) (dC, dI) (tysA cB cI cJ cZ cS) as 8 (mwS cB cI cJ cZ h a s) [(0, .ref h), (1, .int x1), (2, .int x2)] [] (fun x u => x = r ∧ u = (mwS cB cI cJ cZ h a s')) := by
  intro n
  induction n with
  | zero => intro s x1 x2 hB; exact none_ne hB
  | succ n ih => intro s x1 x2 hB; exact br_open_8 ih _ _ _ hB
set_option maxHeartbeats 4000000 in
set_option maxRecDepth 100000 in
theorem br_open {l : Launch} {dC : Nat → ClassId} {dI : Nat → Nat → Nat} {cB cI cJ cZ cS : ClassId} {h : Nat} {a : Nat → Nat} {as : List Value} {r : Int32} {s' : RS} (s : RS) (hB : r_open s = some (r, s')) : BlkI l yX11_open wsX11_open ({ frames := 2, cells := 0, slots := 0, locals := 45 }) cX11_open 3 (some .int) (dC, dI) (tysA cB cI cJ cZ cS) as 0 (mwS cB cI cJ cZ h a s) [(0, .ref h)] [] (fun x u => x = r ∧ u = (mwS cB cI cJ cZ h a s')) := by
  intro p e s0 m below meth c A E H locs ls hP hD hS hl
  obtain ⟨C, hr, hlocks, hA, hK, hN⟩ := id E
  obtain ⟨hx, hb, hml, hown, hts⟩ := id C
  unfold r_open at hB
  refine lv_aload_n hx hb dX11_open_0 rfl (lv_at hl 0 rfl) ?_
  obtain ⟨s1, hc, hB⟩ := bindP_inv hB
  refine q_govF (va_runV (As := []) (rest := []) C (cr_copies hc _) (cwV 0 hts gX11_open_X11_copies rfl rfl rfl (by decide +kernel) ⟨Nat.le_of_ble_eq_true rfl, Nat.le_of_ble_eq_true rfl⟩) (q_preV hK hP (ci := 11) (q0 := 0) rfl rfl rfl (q_preF hN hK hP hD)) rfl rfl hl.1 rfl (lv_room (Nat.le_of_ble_eq_true rfl)) dX11_open_1 ⟨Nat.le_of_ble_eq_true rfl, Nat.le_of_ble_eq_true rfl⟩) hD hS hA (fun w1 H locs hw hP hD hS => ?_)
  subst hw
  refine lv_iconst (v := 0) hx hb dX11_open_4 (by decide) ?_
  refine lv_istore_n (lv' := [(1, .int 0), (0, .ref h)]) hx hb dX11_open_5 rfl hl (by decide) rfl (fun ls hl => ?_)
  refine lv_iconst (v := 0) hx hb dX11_open_6 (by decide) ?_
  refine lv_istore_n (lv' := [(2, .int 0), (1, .int 0), (0, .ref h)]) hx hb dX11_open_7 rfl hl (by decide) rfl (fun ls hl => ?_)
  exact br_open_8L fu _ _ _ hB p e s0 m below meth c A E H locs ls hP hD hS (lv_sub hl [2, 1, 0] rfl)
theorem cr_open {l : Launch} {dC : Nat → ClassId} {dI : Nat → Nat → Nat} {cB cI cJ cZ cS : ClassId} {h : Nat} {a : Nat → Nat} {r : Int32} {s' : RS} {s : RS} (hB : r_open s = some (r, s')) : CI l yX11_open wsX11_open ({ frames := 2, cells := 0, slots := 0, locals := 45 }) (dC, dI) (tysA cB cI cJ cZ cS) (mwS cB cI cJ cZ h a s) [.ref h] (fun x u => x = r ∧ u = (mwS cB cI cJ cZ h a s')) :=
  CI_of (cc := cX11_open) (maxL := 3) (ret := (some .int)) (by decide) rfl (Nat.le_of_ble_eq_true rfl) (br_open _ hB)
theorem LX11_then_101 : Cond.fieldLink RX11 101 "GuessFerryModel" "row" "[I" ∈ wsX11_then := by decide +kernel
theorem inX11_then_X11 : ∀ w ∈ u_ws RX11 TX11 58, w ∈ wsX11_then := by decide +kernel
set_option maxHeartbeats 4000000 in
set_option maxRecDepth 100000 in
theorem br_then {l : Launch} {dC : Nat → ClassId} {dI : Nat → Nat → Nat} {cB cI cJ cZ cS : ClassId} {h : Nat} {a : Nat → Nat} {as : List Value} {r : Int32} {s' : RS} (s : RS) (x1 : Int32) (x2 : Int32) (x3 : Int32) (hB : r_then s x1 x2 x3 = some (r, s')) : BlkI l yX11_then wsX11_then ({ frames := 6, cells := 0, slots := 0, locals := 130 }) cX11_then 4 (some .int) (dC, dI) (tysA cB cI cJ cZ cS) as 0 (mwS cB cI cJ cZ h a s) [(0, .ref h), (1, .int x1), (2, .int x2), (3, .int x3)] [] (fun x u => x = r ∧ u = (mwS cB cI cJ cZ h a s')) := by
  intro p e s0 m below meth c A E H locs ls hP hD hS hl
  obtain ⟨C, hr, hlocks, hA, hK, hN⟩ := id E
  obtain ⟨hx, hb, hml, hown, hts⟩ := id C
  unfold r_then at hB
  refine lv_aload_n hx hb dX11_then_0 rfl (lv_at hl 0 rfl) ?_
  refine lv_iload_n hx hb dX11_then_1 rfl (lv_at hl 1 rfl) ?_
  obtain ⟨q_, s1, hc, hB⟩ := bindI_inv hB
  refine q_goiF (va_runV (As := [.int x1]) (rest := []) C (cr_isWave hc _) (cwV 1 hts gX11_then_X11_isWave rfl rfl rfl (by decide +kernel) ⟨Nat.le_of_ble_eq_true rfl, Nat.le_of_ble_eq_true rfl⟩) (q_preV hK hP (ci := 11) (q0 := 0) rfl rfl rfl (q_preF hN hK hP hD)) rfl rfl hl.1 rfl (lv_room (Nat.le_of_ble_eq_true rfl)) dX11_then_2 ⟨Nat.le_of_ble_eq_true rfl, Nat.le_of_ble_eq_true rfl⟩) hD hS hA (fun r2 w1 H locs hw hP hD hS => ?_)
  obtain ⟨hq_, hw⟩ := hw; subst hw; subst hq_
  refine lv_if_eq (tgt := 24) hx hb dX11_then_5 (by decide) (fun c3 => ?_) (fun c3 => ?_)
  · have hB := if_p hB c3
    refine lv_iconst (v := (-1)) hx hb dX11_then_24 (by decide) ?_
    exact q_iret C hr hlocks hK hP hD hS (Nat.le_of_ble_eq_true rfl) (Nat.le_of_ble_eq_true rfl) dX11_then_25 (by cases hB; exact ⟨rfl, rfl⟩)
  · have hB := if_n hB c3
    refine lv_iload_n hx hb dX11_then_8 rfl (lv_at hl 2 rfl) ?_
    obtain ⟨q_, hc, hB⟩ := bindP_inv hB
    refine q_goi0 (va_runS (As := [.int x2]) (rest := []) C (cr_isLong hc _) (va_cwS 1 hts gX11_then_X11_isLong rfl rfl rfl (by decide +kernel) ⟨Nat.le_of_ble_eq_true rfl, Nat.le_of_ble_eq_true rfl⟩) (q_pre0 hN hK) rfl rfl hl.1 rfl (lv_room (Nat.le_of_ble_eq_true rfl)) dX11_then_9 ⟨Nat.le_of_ble_eq_true rfl, Nat.le_of_ble_eq_true rfl⟩) hP hD hS hA (fun r4 w1 H locs hw hP hS => ?_)
    subst hw
    refine lv_if_eq (tgt := 24) hx hb dX11_then_12 (by decide) (fun c5 => ?_) (fun c5 => ?_)
    · have hB := if_p hB c5
      refine lv_iconst (v := (-1)) hx hb dX11_then_24 (by decide) ?_
      exact q_iret C hr hlocks hK hP hD hS (Nat.le_of_ble_eq_true rfl) (Nat.le_of_ble_eq_true rfl) dX11_then_25 (by cases hB; exact ⟨rfl, rfl⟩)
    · have hB := if_n hB c5
      refine lv_iload_n hx hb dX11_then_15 rfl (lv_at hl 3 rfl) ?_
      refine lv_iconst (v := 0) hx hb dX11_then_16 (by decide) ?_
      refine lv_iconst (v := 2) hx hb dX11_then_17 (by decide) ?_
      obtain ⟨q_, hc, hB⟩ := bindP_inv hB
      refine q_goi0 (va_runS (As := [.int x3, .int 0, .int 2]) (rest := []) C (cr_in hc _) (va_cwS 3 hts gX11_then_X11_in rfl rfl rfl (by decide +kernel) ⟨Nat.le_of_ble_eq_true rfl, Nat.le_of_ble_eq_true rfl⟩) (q_pre0 hN hK) rfl rfl hl.1 rfl (lv_room (Nat.le_of_ble_eq_true rfl)) dX11_then_18 ⟨Nat.le_of_ble_eq_true rfl, Nat.le_of_ble_eq_true rfl⟩) hP hD hS hA (fun r6 w1 H locs hw hP hS => ?_)
      subst hw
      refine lv_if_ne (tgt := 26) hx hb dX11_then_21 (by decide) (fun c7 => ?_) (fun c7 => ?_)
      · have hB := if_n hB c7
        refine lv_aload_n hx hb dX11_then_26 rfl (lv_at hl 0 rfl) ?_
        obtain ⟨s8, hc, hB⟩ := bindP_inv hB
        refine q_govF (va_runV (As := []) (rest := []) C (cr_copies hc _) (cwV 0 hts gX11_then_X11_copies rfl rfl rfl (by decide +kernel) ⟨Nat.le_of_ble_eq_true rfl, Nat.le_of_ble_eq_true rfl⟩) (q_preV hK hP (ci := 11) (q0 := 0) rfl rfl rfl (q_preF hN hK hP hD)) rfl rfl hl.1 rfl (lv_room (Nat.le_of_ble_eq_true rfl)) dX11_then_27 ⟨Nat.le_of_ble_eq_true rfl, Nat.le_of_ble_eq_true rfl⟩) hD hS hA (fun w1 H locs hw hP hD hS => ?_)
        subst hw
        refine lv_aload_n hx hb dX11_then_30 rfl (lv_at hl 0 rfl) ?_
        refine lv_iload_n hx hb dX11_then_31 rfl (lv_at hl 2 rfl) ?_
        obtain ⟨s9, hc, hB⟩ := bindP_inv hB
        refine q_govF (va_runV (As := [.int x2]) (rest := []) C (cr_yearsGo hc _) (cwV 1 hts gX11_then_X11_yearsGo rfl rfl rfl (by decide +kernel) ⟨Nat.le_of_ble_eq_true rfl, Nat.le_of_ble_eq_true rfl⟩) (q_preV hK hP (ci := 11) (q0 := 0) rfl rfl rfl (q_preF hN hK hP hD)) rfl rfl hl.1 rfl (lv_room (Nat.le_of_ble_eq_true rfl)) dX11_then_32 ⟨Nat.le_of_ble_eq_true rfl, Nat.le_of_ble_eq_true rfl⟩) hD hS hA (fun w1 H locs hw hP hD hS => ?_)
        subst hw
        refine lv_iload_n hx hb dX11_then_35 rfl (lv_at hl 3 rfl) ?_
        refine lv_if_ne (tgt := 47) hx hb dX11_then_36 (by decide) (fun c10 => ?_) (fun c10 => ?_)
        · have hB := if_n hB c10
          refine lv_iload_n hx hb dX11_then_47 rfl (lv_at hl 3 rfl) ?_
          refine lv_iconst (v := 1) hx hb dX11_then_48 (by decide) ?_
          refine lv_icmp_ne (tgt := 64) hx hb dX11_then_49 (by decide) (fun c11 => ?_) (fun c11 => ?_)
          · have hB := if_n hB c11
            refine lv_aload_n hx hb dX11_then_64 rfl (lv_at hl 0 rfl) ?_
            refine lv_iload_n hx hb dX11_then_65 rfl (lv_at hl 1 rfl) ?_
            obtain ⟨q_, s12, hc, hB⟩ := bindI_inv hB
            refine q_goiF (va_runV (As := [.int x1]) (rest := []) C (cr_thereAt hc _) (cwV 1 hts gX11_then_X11_thereAt rfl rfl rfl (by decide +kernel) ⟨Nat.le_of_ble_eq_true rfl, Nat.le_of_ble_eq_true rfl⟩) (q_preV hK hP (ci := 11) (q0 := 0) rfl rfl rfl (q_preF hN hK hP hD)) rfl rfl hl.1 rfl (lv_room (Nat.le_of_ble_eq_true rfl)) dX11_then_66 ⟨Nat.le_of_ble_eq_true rfl, Nat.le_of_ble_eq_true rfl⟩) hD hS hA (fun r13 w1 H locs hw hP hD hS => ?_)
            obtain ⟨hq_, hw⟩ := hw; subst hw; subst hq_
            exact q_iret C hr hlocks hK hP hD hS (Nat.le_of_ble_eq_true rfl) (Nat.le_of_ble_eq_true rfl) dX11_then_69 (by cases hB; exact ⟨rfl, rfl⟩)
          · have hB := if_p hB c11
            refine lv_aload_n hx hb dX11_then_52 rfl (lv_at hl 0 rfl) ?_
            refine q_get (v := .ref (a 44)) C inX11_then_X11 hK hP 0 rfl rfl 44 (by decide) rfl LX11_then_101 rfl dX11_then_53 ?_
            refine lv_bipush (v := 10) hx hb dX11_then_56 (by decide) ?_
            refine lv_iload_n hx hb dX11_then_58 rfl (lv_at hl 1 rfl) ?_
            refine lv_iadd hx hb dX11_then_59 ?_
            obtain ⟨g14, hB⟩ := guard_inv hB
            refine q_iald (x := (s9.f 44 (Int32.toNatClampNeg (10 + x1)))) C hK hP 28 1 rfl rfl (vpb_in g14) dX11_then_60 rfl ?_
            refine lv_goto (tgt := 69) hx hb dX11_then_61 (by decide) ?_
            exact q_iret C hr hlocks hK hP hD hS (Nat.le_of_ble_eq_true rfl) (Nat.le_of_ble_eq_true rfl) dX11_then_69 (by cases hB; exact ⟨rfl, rfl⟩)
        · have hB := if_p hB c10
          refine lv_aload_n hx hb dX11_then_39 rfl (lv_at hl 0 rfl) ?_
          refine lv_iload_n hx hb dX11_then_40 rfl (lv_at hl 1 rfl) ?_
          obtain ⟨q_, s15, hc, hB⟩ := bindI_inv hB
          refine q_goiF (va_runV (As := [.int x1]) (rest := []) C (cr_mayAt hc _) (cwV 1 hts gX11_then_X11_mayAt rfl rfl rfl (by decide +kernel) ⟨Nat.le_of_ble_eq_true rfl, Nat.le_of_ble_eq_true rfl⟩) (q_preV hK hP (ci := 11) (q0 := 0) rfl rfl rfl (q_preF hN hK hP hD)) rfl rfl hl.1 rfl (lv_room (Nat.le_of_ble_eq_true rfl)) dX11_then_41 ⟨Nat.le_of_ble_eq_true rfl, Nat.le_of_ble_eq_true rfl⟩) hD hS hA (fun r16 w1 H locs hw hP hD hS => ?_)
          obtain ⟨hq_, hw⟩ := hw; subst hw; subst hq_
          refine lv_goto (tgt := 69) hx hb dX11_then_44 (by decide) ?_
          exact q_iret C hr hlocks hK hP hD hS (Nat.le_of_ble_eq_true rfl) (Nat.le_of_ble_eq_true rfl) dX11_then_69 (by cases hB; exact ⟨rfl, rfl⟩)
      · have hB := if_p hB c7
        refine lv_iconst (v := (-1)) hx hb dX11_then_24 (by decide) ?_
        exact q_iret C hr hlocks hK hP hD hS (Nat.le_of_ble_eq_true rfl) (Nat.le_of_ble_eq_true rfl) dX11_then_25 (by cases hB; exact ⟨rfl, rfl⟩)
theorem cr_then {l : Launch} {dC : Nat → ClassId} {dI : Nat → Nat → Nat} {cB cI cJ cZ cS : ClassId} {h : Nat} {a : Nat → Nat} {r : Int32} {s' : RS} {s : RS} {x1 : Int32} {x2 : Int32} {x3 : Int32} (hB : r_then s x1 x2 x3 = some (r, s')) : CI l yX11_then wsX11_then ({ frames := 6, cells := 0, slots := 0, locals := 130 }) (dC, dI) (tysA cB cI cJ cZ cS) (mwS cB cI cJ cZ h a s) [.ref h, .int x1, .int x2, .int x3] (fun x u => x = r ∧ u = (mwS cB cI cJ cZ h a s')) :=
  CI_of (cc := cX11_then) (maxL := 4) (ret := (some .int)) (by decide) rfl (Nat.le_of_ble_eq_true rfl) (br_then _ _ _ _ hB)
theorem LX11_next_101 : Cond.fieldLink RX11 101 "GuessFerryModel" "row" "[I" ∈ wsX11_next := by decide +kernel
theorem LX11_next_98 : Cond.fieldLink RX11 98 "GuessFerryModel" "now" "[I" ∈ wsX11_next := by decide +kernel
theorem inX11_next_X11 : ∀ w ∈ u_ws RX11 TX11 58, w ∈ wsX11_next := by decide +kernel
set_option maxHeartbeats 4000000 in
set_option maxRecDepth 100000 in
theorem br_next_16 {l : Launch} {dC : Nat → ClassId} {dI : Nat → Nat → Nat} {cB cI cJ cZ cS : ClassId} {h : Nat} {a : Nat → Nat} {as : List Value} {r : Int32} {s' : RS} {k16 : RS → Int32 → Int32 → Option (Int32 × RS)} (hk16 : ∀ (s : RS) (x1 : Int32) (x2 : Int32), k16 s x1 x2 = some (r, s') → BlkI l yX11_next wsX11_next ({ frames := 5, cells := 0, slots := 0, locals := 108 }) cX11_next 3 (some .int) (dC, dI) (tysA cB cI cJ cZ cS) as 16 (mwS cB cI cJ cZ h a s) [(0, .ref h), (1, .int x1), (2, .int x2)] [] (fun x u => x = r ∧ u = (mwS cB cI cJ cZ h a s'))) (s : RS) (x1 : Int32) (x2 : Int32) (hB : r_next_16 k16 s x1 x2 = some (r, s')) : BlkI l yX11_next wsX11_next ({ frames := 5, cells := 0, slots := 0, locals := 108 }) cX11_next 3 (some .int) (dC, dI) (tysA cB cI cJ cZ cS) as 16 (mwS cB cI cJ cZ h a s) [(0, .ref h), (1, .int x1), (2, .int x2)] [] (fun x u => x = r ∧ u = (mwS cB cI cJ cZ h a s')) := by
  intro p e s0 m below meth c A E H locs ls hP hD hS hl
  obtain ⟨C, hr, hlocks, hA, hK, hN⟩ := id E
  obtain ⟨hx, hb, hml, hown, hts⟩ := id C
  unfold r_next_16 at hB
  refine lv_iload_n hx hb dX11_next_16 rfl (lv_at hl 2 rfl) ?_
  refine lv_bipush (v := 40) hx hb dX11_next_17 (by decide) ?_
  refine lv_icmp_gt (tgt := 55) hx hb dX11_next_19 (by decide) (fun c1 => ?_) (fun c1 => ?_)
  · have hB := if_p hB c1
    refine lv_bipush (v := (-2)) hx hb dX11_next_55 (by decide) ?_
    exact q_iret C hr hlocks hK hP hD hS (Nat.le_of_ble_eq_true rfl) (Nat.le_of_ble_eq_true rfl) dX11_next_57 (by cases hB; exact ⟨rfl, rfl⟩)
  · have hB := if_n hB c1
    refine lv_aload_n hx hb dX11_next_22 rfl (lv_at hl 0 rfl) ?_
    obtain ⟨s2, hc, hB⟩ := bindP_inv hB
    refine q_govF (va_runV (As := []) (rest := []) C (cr_yearGoes hc _) (cwV 0 hts gX11_next_X11_yearGoes rfl rfl rfl (by decide +kernel) ⟨Nat.le_of_ble_eq_true rfl, Nat.le_of_ble_eq_true rfl⟩) (q_preV hK hP (ci := 11) (q0 := 0) rfl rfl rfl (q_preF hN hK hP hD)) rfl rfl hl.1 rfl (lv_room (Nat.le_of_ble_eq_true rfl)) dX11_next_23 ⟨Nat.le_of_ble_eq_true rfl, Nat.le_of_ble_eq_true rfl⟩) hD hS hA (fun w1 H locs hw hP hD hS => ?_)
    subst hw
    refine lv_aload_n hx hb dX11_next_26 rfl (lv_at hl 0 rfl) ?_
    refine q_get (v := .ref (a 44)) C inX11_next_X11 hK hP 0 rfl rfl 44 (by decide) rfl LX11_next_101 rfl dX11_next_27 ?_
    refine lv_bipush (v := 10) hx hb dX11_next_30 (by decide) ?_
    refine lv_iload_n hx hb dX11_next_32 rfl (lv_at hl 1 rfl) ?_
    refine lv_iadd hx hb dX11_next_33 ?_
    obtain ⟨g3, hB⟩ := guard_inv hB
    refine q_iald (x := (s2.f 44 (Int32.toNatClampNeg (10 + x1)))) C hK hP 28 1 rfl rfl (vpb_in g3) dX11_next_34 rfl ?_
    refine lv_aload_n hx hb dX11_next_35 rfl (lv_at hl 0 rfl) ?_
    refine q_get (v := .ref (a 43)) C inX11_next_X11 hK hP 0 rfl rfl 43 (by decide) rfl LX11_next_98 rfl dX11_next_36 ?_
    refine lv_bipush (v := 10) hx hb dX11_next_39 (by decide) ?_
    refine lv_iload_n hx hb dX11_next_41 rfl (lv_at hl 1 rfl) ?_
    refine lv_iadd hx hb dX11_next_42 ?_
    obtain ⟨g4, hB⟩ := guard_inv hB
    refine q_iald (x := (s2.f 43 (Int32.toNatClampNeg (10 + x1)))) C hK hP 27 1 rfl rfl (vpb_in g4) dX11_next_43 rfl ?_
    refine lv_icmp_le (tgt := 49) hx hb dX11_next_44 (by decide) (fun c5 => ?_) (fun c5 => ?_)
    · have hB := if_p hB c5
      refine lv_iinc (v := (x2 + 1)) (lv' := [(2, .int (x2 + 1)), (0, .ref h), (1, .int x1)]) hx hb dX11_next_49 hl (k := 2) rfl (rfl) (by decide) rfl (fun ls hl => ?_)
      refine lv_goto (tgt := 16) hx hb dX11_next_52 (by decide) ?_
      exact hk16 _ _ _ hB p e s0 m below meth c A E H locs ls hP hD hS (lv_sub hl [1, 2, 0] rfl)
    · have hB := if_n hB c5
      refine lv_iload_n hx hb dX11_next_47 rfl (lv_at hl 2 rfl) ?_
      exact q_iret C hr hlocks hK hP hD hS (Nat.le_of_ble_eq_true rfl) (Nat.le_of_ble_eq_true rfl) dX11_next_48 (by cases hB; exact ⟨rfl, rfl⟩)
theorem br_next_16L {l : Launch} {dC : Nat → ClassId} {dI : Nat → Nat → Nat} {cB cI cJ cZ cS : ClassId} {h : Nat} {a : Nat → Nat} {as : List Value} {r : Int32} {s' : RS} : ∀ (n : Nat) (s : RS) (x1 : Int32) (x2 : Int32), r_next_16L n s x1 x2 = some (r, s') → BlkI l yX11_next wsX11_next ({ frames := 5, cells := 0, slots := 0, locals := 108 }) cX11_next 3 (some .int) (dC, dI) (tysA cB cI cJ cZ cS) as 16 (mwS cB cI cJ cZ h a s) [(0, .ref h), (1, .int x1), (2, .int x2)] [] (fun x u => x = r ∧ u = (mwS cB cI cJ cZ h a s')) := by
  intro n
  induction n with
  | zero => intro s x1 x2 hB; exact none_ne hB
  | succ n ih => intro s x1 x2 hB; exact br_next_16 ih _ _ _ hB
set_option maxHeartbeats 4000000 in
set_option maxRecDepth 100000 in
theorem br_next {l : Launch} {dC : Nat → ClassId} {dI : Nat → Nat → Nat} {cB cI cJ cZ cS : ClassId} {h : Nat} {a : Nat → Nat} {as : List Value} {r : Int32} {s' : RS} (s : RS) (x1 : Int32) (hB : r_next s x1 = some (r, s')) : BlkI l yX11_next wsX11_next ({ frames := 5, cells := 0, slots := 0, locals := 108 }) cX11_next 3 (some .int) (dC, dI) (tysA cB cI cJ cZ cS) as 0 (mwS cB cI cJ cZ h a s) [(0, .ref h), (1, .int x1)] [] (fun x u => x = r ∧ u = (mwS cB cI cJ cZ h a s')) := by
  intro p e s0 m below meth c A E H locs ls hP hD hS hl
  obtain ⟨C, hr, hlocks, hA, hK, hN⟩ := id E
  obtain ⟨hx, hb, hml, hown, hts⟩ := id C
  unfold r_next at hB
  refine lv_aload_n hx hb dX11_next_0 rfl (lv_at hl 0 rfl) ?_
  refine lv_iload_n hx hb dX11_next_1 rfl (lv_at hl 1 rfl) ?_
  obtain ⟨q_, s1, hc, hB⟩ := bindI_inv hB
  refine q_goiF (va_runV (As := [.int x1]) (rest := []) C (cr_isWave hc _) (cwV 1 hts gX11_next_X11_isWave rfl rfl rfl (by decide +kernel) ⟨Nat.le_of_ble_eq_true rfl, Nat.le_of_ble_eq_true rfl⟩) (q_preV hK hP (ci := 11) (q0 := 0) rfl rfl rfl (q_preF hN hK hP hD)) rfl rfl hl.1 rfl (lv_room (Nat.le_of_ble_eq_true rfl)) dX11_next_2 ⟨Nat.le_of_ble_eq_true rfl, Nat.le_of_ble_eq_true rfl⟩) hD hS hA (fun r2 w1 H locs hw hP hD hS => ?_)
  obtain ⟨hq_, hw⟩ := hw; subst hw; subst hq_
  refine lv_if_ne (tgt := 10) hx hb dX11_next_5 (by decide) (fun c3 => ?_) (fun c3 => ?_)
  · have hB := if_n hB c3
    refine lv_aload_n hx hb dX11_next_10 rfl (lv_at hl 0 rfl) ?_
    obtain ⟨s4, hc, hB⟩ := bindP_inv hB
    refine q_govF (va_runV (As := []) (rest := []) C (cr_copies hc _) (cwV 0 hts gX11_next_X11_copies rfl rfl rfl (by decide +kernel) ⟨Nat.le_of_ble_eq_true rfl, Nat.le_of_ble_eq_true rfl⟩) (q_preV hK hP (ci := 11) (q0 := 0) rfl rfl rfl (q_preF hN hK hP hD)) rfl rfl hl.1 rfl (lv_room (Nat.le_of_ble_eq_true rfl)) dX11_next_11 ⟨Nat.le_of_ble_eq_true rfl, Nat.le_of_ble_eq_true rfl⟩) hD hS hA (fun w1 H locs hw hP hD hS => ?_)
    subst hw
    refine lv_iconst (v := 1) hx hb dX11_next_14 (by decide) ?_
    refine lv_istore_n (lv' := [(2, .int 1), (0, .ref h), (1, .int x1)]) hx hb dX11_next_15 rfl hl (by decide) rfl (fun ls hl => ?_)
    exact br_next_16L fu _ _ _ hB p e s0 m below meth c A E H locs ls hP hD hS (lv_sub hl [1, 2, 0] rfl)
  · have hB := if_p hB c3
    refine lv_iconst (v := (-1)) hx hb dX11_next_8 (by decide) ?_
    exact q_iret C hr hlocks hK hP hD hS (Nat.le_of_ble_eq_true rfl) (Nat.le_of_ble_eq_true rfl) dX11_next_9 (by cases hB; exact ⟨rfl, rfl⟩)
theorem cr_next {l : Launch} {dC : Nat → ClassId} {dI : Nat → Nat → Nat} {cB cI cJ cZ cS : ClassId} {h : Nat} {a : Nat → Nat} {r : Int32} {s' : RS} {s : RS} {x1 : Int32} (hB : r_next s x1 = some (r, s')) : CI l yX11_next wsX11_next ({ frames := 5, cells := 0, slots := 0, locals := 108 }) (dC, dI) (tysA cB cI cJ cZ cS) (mwS cB cI cJ cZ h a s) [.ref h, .int x1] (fun x u => x = r ∧ u = (mwS cB cI cJ cZ h a s')) :=
  CI_of (cc := cX11_next) (maxL := 3) (ret := (some .int)) (by decide) rfl (Nat.le_of_ble_eq_true rfl) (br_next _ _ hB)
