set_option maxRecDepth 20000 in
theorem ggX11_goesBy_X11_bearsBy : GoodIn wsX11_goesBy wsX11_bearsBy := goodIn_r _ [8, 2, 3, 9, 10, 11, 7, 12, 13, 14, 15, 16, 17, 18, 19, 20, 21, 22, 23, 24, 25, 26, 27, 28, 29, 30, 31, 1, 32, 33, 34, 35, 36, 37, 38, 39, 40, 41, 42, 43, 44, 45, 46, 47, 48, 49, 50, 51, 52, 53, 54, 55, 56, 57, 58, 59, 60, 61, 62, 63, 64, 65, 66, 71, 72, 73, 74, 75, 76, 77, 78, 79, 80, 81, 82, 83, 84, 85, 86, 87, 88, 89, 90, 91, 92, 93, 94, 95, 96, 97, 98, 99, 100, 101, 102, 103, 104, 105, 106, 107, 108, 109, 110, 111, 112, 113, 114, 115, 116, 117, 118, 119, 120, 121, 122, 123, 124, 125, 126, 127, 128] (by decide +kernel) (by decide +kernel)
set_option maxRecDepth 20000 in
theorem gX11_goesBy_X11_bearsBy : GoodIn wsX11_goesBy (wsV RX11 336 RX11 yX11_bearsBy wsX11_bearsBy) := goodIn_app (goodIn_of _ (by decide +kernel)) ggX11_goesBy_X11_bearsBy
set_option maxRecDepth 20000 in
theorem ggX11_goesBy_X11_faresOf : GoodIn wsX11_goesBy wsX11_faresOf := goodIn_r _ [70, 28, 29, 30, 7, 31, 27, 1, 32, 3, 33, 45, 46, 47, 48, 49, 50, 51, 52, 53, 54, 55, 56, 57, 58, 59, 60, 61, 62, 63, 64, 65, 66, 71, 72, 73, 74, 75, 76, 77, 78, 79, 80, 81, 82, 83, 84, 85, 86, 87, 88, 89, 90, 91, 92, 93, 94, 95, 96, 97, 98, 99, 100, 101, 102, 103, 104, 105, 106, 107, 108, 109, 110, 111, 112, 113, 114, 115, 116, 117, 118, 119, 120, 121, 122, 123, 124, 125, 126, 127, 128] (by decide +kernel) (by decide +kernel)
set_option maxRecDepth 20000 in
theorem gX11_goesBy_X11_faresOf : GoodIn wsX11_goesBy (wsV RX11 339 RX11 yX11_faresOf wsX11_faresOf) := goodIn_app (goodIn_of _ (by decide +kernel)) ggX11_goesBy_X11_faresOf
set_option maxRecDepth 20000 in
theorem ggX11_goesBy_X11_thingAt : GoodIn wsX11_goesBy wsX11_thingAt := goodIn_r _ [12, 13, 71, 72, 73, 74, 75, 76, 77, 78, 79, 80, 81, 82, 83, 84, 85, 86, 87, 88, 89, 90, 91, 92, 93, 94, 95, 96, 97, 98, 99, 100, 101, 102, 103, 104, 105, 106, 107, 108, 109, 110, 111, 112, 113, 114, 115, 116, 117, 118, 119, 120, 121, 122, 123, 124, 125, 126, 127, 128] (by decide +kernel) (by decide +kernel)
set_option maxRecDepth 20000 in
theorem gX11_goesBy_X11_thingAt : GoodIn wsX11_goesBy (wsV RX11 330 RX11 yX11_thingAt wsX11_thingAt) := goodIn_app (goodIn_of _ (by decide +kernel)) ggX11_goesBy_X11_thingAt
theorem dX11_goesBy_0 : decode cX11_goesBy 0 = .ok (.aload_n 0, 1) := by decide +kernel
theorem dX11_goesBy_1 : decode cX11_goesBy 1 = .ok (.iload_n 1, 1) := by decide +kernel
theorem dX11_goesBy_2 : decode cX11_goesBy 2 = .ok (.iload_n 2, 1) := by decide +kernel
theorem dX11_goesBy_3 : decode cX11_goesBy 3 = .ok (.invokevirtual 336, 3) := by decide +kernel
theorem dX11_goesBy_6 : decode cX11_goesBy 6 = .ok (.istore 4, 2) := by decide +kernel
theorem dX11_goesBy_8 : decode cX11_goesBy 8 = .ok (.aload_n 0, 1) := by decide +kernel
theorem dX11_goesBy_9 : decode cX11_goesBy 9 = .ok (.getfield 101, 3) := by decide +kernel
theorem dX11_goesBy_12 : decode cX11_goesBy 12 = .ok (.bipush 28, 2) := by decide +kernel
theorem dX11_goesBy_14 : decode cX11_goesBy 14 = .ok (.dup2, 1) := by decide +kernel
theorem dX11_goesBy_15 : decode cX11_goesBy 15 = .ok (.iaload, 1) := by decide +kernel
theorem dX11_goesBy_16 : decode cX11_goesBy 16 = .ok (.aload_n 0, 1) := by decide +kernel
theorem dX11_goesBy_17 : decode cX11_goesBy 17 = .ok (.iload_n 1, 1) := by decide +kernel
theorem dX11_goesBy_18 : decode cX11_goesBy 18 = .ok (.invokevirtual 339, 3) := by decide +kernel
theorem dX11_goesBy_21 : decode cX11_goesBy 21 = .ok (.iadd, 1) := by decide +kernel
theorem dX11_goesBy_22 : decode cX11_goesBy 22 = .ok (.iastore, 1) := by decide +kernel
theorem dX11_goesBy_23 : decode cX11_goesBy 23 = .ok (.aload_n 0, 1) := by decide +kernel
theorem dX11_goesBy_24 : decode cX11_goesBy 24 = .ok (.getfield 101, 3) := by decide +kernel
theorem dX11_goesBy_27 : decode cX11_goesBy 27 = .ok (.bipush 21, 2) := by decide +kernel
theorem dX11_goesBy_29 : decode cX11_goesBy 29 = .ok (.iload_n 1, 1) := by decide +kernel
theorem dX11_goesBy_30 : decode cX11_goesBy 30 = .ok (.iadd, 1) := by decide +kernel
theorem dX11_goesBy_31 : decode cX11_goesBy 31 = .ok (.dup2, 1) := by decide +kernel
theorem dX11_goesBy_32 : decode cX11_goesBy 32 = .ok (.iaload, 1) := by decide +kernel
theorem dX11_goesBy_33 : decode cX11_goesBy 33 = .ok (.iconst 1, 1) := by decide +kernel
theorem dX11_goesBy_34 : decode cX11_goesBy 34 = .ok (.iadd, 1) := by decide +kernel
theorem dX11_goesBy_35 : decode cX11_goesBy 35 = .ok (.iastore, 1) := by decide +kernel
theorem dX11_goesBy_36 : decode cX11_goesBy 36 = .ok (.iconst 0, 1) := by decide +kernel
theorem dX11_goesBy_37 : decode cX11_goesBy 37 = .ok (.istore 5, 2) := by decide +kernel
theorem dX11_goesBy_39 : decode cX11_goesBy 39 = .ok (.iload 5, 2) := by decide +kernel
theorem dX11_goesBy_41 : decode cX11_goesBy 41 = .ok (.aload_n 0, 1) := by decide +kernel
theorem dX11_goesBy_42 : decode cX11_goesBy 42 = .ok (.getfield 40, 3) := by decide +kernel
theorem dX11_goesBy_45 : decode cX11_goesBy 45 = .ok (.aload_n 0, 1) := by decide +kernel
theorem dX11_goesBy_46 : decode cX11_goesBy 46 = .ok (.getfield 215, 3) := by decide +kernel
theorem dX11_goesBy_49 : decode cX11_goesBy 49 = .ok (.iaload, 1) := by decide +kernel
theorem dX11_goesBy_50 : decode cX11_goesBy 50 = .ok (.if_icmp .ge 78, 3) := by decide +kernel
theorem dX11_goesBy_53 : decode cX11_goesBy 53 = .ok (.aload_n 0, 1) := by decide +kernel
theorem dX11_goesBy_54 : decode cX11_goesBy 54 = .ok (.iload_n 2, 1) := by decide +kernel
theorem dX11_goesBy_55 : decode cX11_goesBy 55 = .ok (.iload 5, 2) := by decide +kernel
theorem dX11_goesBy_57 : decode cX11_goesBy 57 = .ok (.invokevirtual 330, 3) := by decide +kernel
theorem dX11_goesBy_60 : decode cX11_goesBy 60 = .ok (.istore 6, 2) := by decide +kernel
theorem dX11_goesBy_62 : decode cX11_goesBy 62 = .ok (.iload 5, 2) := by decide +kernel
theorem dX11_goesBy_64 : decode cX11_goesBy 64 = .ok (.iload 4, 2) := by decide +kernel
theorem dX11_goesBy_66 : decode cX11_goesBy 66 = .ok (.if_icmp .ne 16, 3) := by decide +kernel
theorem dX11_goesBy_69 : decode cX11_goesBy 69 = .ok (.aload_n 0, 1) := by decide +kernel
theorem dX11_goesBy_70 : decode cX11_goesBy 70 = .ok (.getfield 101, 3) := by decide +kernel
theorem dX11_goesBy_73 : decode cX11_goesBy 73 = .ok (.bipush 15, 2) := by decide +kernel
theorem dX11_goesBy_75 : decode cX11_goesBy 75 = .ok (.iload_n 1, 1) := by decide +kernel
theorem dX11_goesBy_76 : decode cX11_goesBy 76 = .ok (.iadd, 1) := by decide +kernel
theorem dX11_goesBy_77 : decode cX11_goesBy 77 = .ok (.iconst 1, 1) := by decide +kernel
theorem dX11_goesBy_78 : decode cX11_goesBy 78 = .ok (.iastore, 1) := by decide +kernel
theorem dX11_goesBy_79 : decode cX11_goesBy 79 = .ok (.iload 5, 2) := by decide +kernel
theorem dX11_goesBy_81 : decode cX11_goesBy 81 = .ok (.ireturn, 1) := by decide +kernel
theorem dX11_goesBy_82 : decode cX11_goesBy 82 = .ok (.iload 6, 2) := by decide +kernel
theorem dX11_goesBy_84 : decode cX11_goesBy 84 = .ok (.aload_n 0, 1) := by decide +kernel
theorem dX11_goesBy_85 : decode cX11_goesBy 85 = .ok (.iload_n 3, 1) := by decide +kernel
theorem dX11_goesBy_86 : decode cX11_goesBy 86 = .ok (.iload 5, 2) := by decide +kernel
theorem dX11_goesBy_88 : decode cX11_goesBy 88 = .ok (.invokevirtual 330, 3) := by decide +kernel
theorem dX11_goesBy_91 : decode cX11_goesBy 91 = .ok (.if_icmp .eq 20, 3) := by decide +kernel
theorem dX11_goesBy_94 : decode cX11_goesBy 94 = .ok (.aload_n 0, 1) := by decide +kernel
theorem dX11_goesBy_95 : decode cX11_goesBy 95 = .ok (.getfield 101, 3) := by decide +kernel
theorem dX11_goesBy_98 : decode cX11_goesBy 98 = .ok (.iload 5, 2) := by decide +kernel
theorem dX11_goesBy_100 : decode cX11_goesBy 100 = .ok (.dup2, 1) := by decide +kernel
theorem dX11_goesBy_101 : decode cX11_goesBy 101 = .ok (.iaload, 1) := by decide +kernel
theorem dX11_goesBy_102 : decode cX11_goesBy 102 = .ok (.iconst 1, 1) := by decide +kernel
theorem dX11_goesBy_103 : decode cX11_goesBy 103 = .ok (.iload 6, 2) := by decide +kernel
theorem dX11_goesBy_105 : decode cX11_goesBy 105 = .ok (.ishl, 1) := by decide +kernel
theorem dX11_goesBy_106 : decode cX11_goesBy 106 = .ok (.ior, 1) := by decide +kernel
theorem dX11_goesBy_107 : decode cX11_goesBy 107 = .ok (.iastore, 1) := by decide +kernel
theorem dX11_goesBy_108 : decode cX11_goesBy 108 = .ok (.iload 5, 2) := by decide +kernel
theorem dX11_goesBy_110 : decode cX11_goesBy 110 = .ok (.ireturn, 1) := by decide +kernel
theorem dX11_goesBy_111 : decode cX11_goesBy 111 = .ok (.aload_n 0, 1) := by decide +kernel
theorem dX11_goesBy_112 : decode cX11_goesBy 112 = .ok (.getfield 101, 3) := by decide +kernel
theorem dX11_goesBy_115 : decode cX11_goesBy 115 = .ok (.iconst 5, 1) := by decide +kernel
theorem dX11_goesBy_116 : decode cX11_goesBy 116 = .ok (.iload 5, 2) := by decide +kernel
theorem dX11_goesBy_118 : decode cX11_goesBy 118 = .ok (.iadd, 1) := by decide +kernel
theorem dX11_goesBy_119 : decode cX11_goesBy 119 = .ok (.iload 6, 2) := by decide +kernel
theorem dX11_goesBy_121 : decode cX11_goesBy 121 = .ok (.iastore, 1) := by decide +kernel
theorem dX11_goesBy_122 : decode cX11_goesBy 122 = .ok (.iinc 5 1, 3) := by decide +kernel
theorem dX11_goesBy_125 : decode cX11_goesBy 125 = .ok (.goto (-86), 3) := by decide +kernel
theorem dX11_goesBy_128 : decode cX11_goesBy 128 = .ok (.aload_n 0, 1) := by decide +kernel
theorem dX11_goesBy_129 : decode cX11_goesBy 129 = .ok (.getfield 101, 3) := by decide +kernel
theorem dX11_goesBy_132 : decode cX11_goesBy 132 = .ok (.bipush 15, 2) := by decide +kernel
theorem dX11_goesBy_134 : decode cX11_goesBy 134 = .ok (.iload_n 1, 1) := by decide +kernel
theorem dX11_goesBy_135 : decode cX11_goesBy 135 = .ok (.iadd, 1) := by decide +kernel
theorem dX11_goesBy_136 : decode cX11_goesBy 136 = .ok (.iconst 2, 1) := by decide +kernel
theorem dX11_goesBy_137 : decode cX11_goesBy 137 = .ok (.iastore, 1) := by decide +kernel
theorem dX11_goesBy_138 : decode cX11_goesBy 138 = .ok (.aload_n 0, 1) := by decide +kernel
theorem dX11_goesBy_139 : decode cX11_goesBy 139 = .ok (.getfield 40, 3) := by decide +kernel
theorem dX11_goesBy_142 : decode cX11_goesBy 142 = .ok (.aload_n 0, 1) := by decide +kernel
theorem dX11_goesBy_143 : decode cX11_goesBy 143 = .ok (.getfield 215, 3) := by decide +kernel
theorem dX11_goesBy_146 : decode cX11_goesBy 146 = .ok (.iaload, 1) := by decide +kernel
theorem dX11_goesBy_147 : decode cX11_goesBy 147 = .ok (.ireturn, 1) := by decide +kernel
set_option maxRecDepth 20000 in
theorem ggX11_yearGoes_X11_lotOf : GoodIn wsX11_yearGoes wsX11_lotOf := goodIn_r _ [10, 11, 12, 13, 9, 14, 15, 65, 66, 67, 68, 69, 70, 71, 72, 73, 74, 75, 76, 77, 78, 79, 80, 81, 82, 83, 84, 85, 86, 87, 88, 89, 90, 91, 92, 93, 94, 95, 96, 97, 98, 99, 100, 101, 102, 103, 104, 105, 106, 107, 108, 109, 110, 111, 112, 113, 114, 115, 116, 117, 118, 119, 120, 121, 122] (by decide +kernel) (by decide +kernel)
set_option maxRecDepth 20000 in
theorem gX11_yearGoes_X11_lotOf : GoodIn wsX11_yearGoes (wsV RX11 300 RX11 yX11_lotOf wsX11_lotOf) := goodIn_app (goodIn_of _ (by decide +kernel)) ggX11_yearGoes_X11_lotOf
set_option maxRecDepth 20000 in
theorem ggX11_yearGoes_X11_shiftsOf : GoodIn wsX11_yearGoes wsX11_shiftsOf := goodIn_r _ [19, 20, 21, 22, 9, 23, 24, 4, 25, 2, 26, 27, 28, 29, 30, 31, 32, 33, 34, 35, 36, 37, 38, 39, 40, 41, 42, 43, 44, 45, 46, 47, 48, 49, 50, 51, 52, 53, 54, 55, 56, 57, 58, 59, 60, 61, 62, 63, 64, 65, 66, 67, 68, 69, 70, 71, 72, 73, 74, 75, 76, 77, 78, 79, 80, 81, 82, 83, 84, 85, 86, 87, 88, 89, 90, 91, 92, 93, 94, 95, 96, 97, 98, 99, 100, 101, 102, 103, 104, 105, 106, 107, 108, 109, 110, 111, 112, 113, 114, 115, 116, 117, 118, 119, 120, 121, 122] (by decide +kernel) (by decide +kernel)
set_option maxRecDepth 20000 in
theorem gX11_yearGoes_X11_shiftsOf : GoodIn wsX11_yearGoes (wsV RX11 343 RX11 yX11_shiftsOf wsX11_shiftsOf) := goodIn_app (goodIn_of _ (by decide +kernel)) ggX11_yearGoes_X11_shiftsOf
theorem dX11_yearGoes_0 : decode cX11_yearGoes 0 = .ok (.iconst 0, 1) := by decide +kernel
theorem dX11_yearGoes_1 : decode cX11_yearGoes 1 = .ok (.istore_n 1, 1) := by decide +kernel
theorem dX11_yearGoes_2 : decode cX11_yearGoes 2 = .ok (.iload_n 1, 1) := by decide +kernel
theorem dX11_yearGoes_3 : decode cX11_yearGoes 3 = .ok (.aload_n 0, 1) := by decide +kernel
theorem dX11_yearGoes_4 : decode cX11_yearGoes 4 = .ok (.getfield 40, 3) := by decide +kernel
theorem dX11_yearGoes_7 : decode cX11_yearGoes 7 = .ok (.aload_n 0, 1) := by decide +kernel
theorem dX11_yearGoes_8 : decode cX11_yearGoes 8 = .ok (.getfield 215, 3) := by decide +kernel
theorem dX11_yearGoes_11 : decode cX11_yearGoes 11 = .ok (.iaload, 1) := by decide +kernel
theorem dX11_yearGoes_12 : decode cX11_yearGoes 12 = .ok (.if_icmp .ge 50, 3) := by decide +kernel
theorem dX11_yearGoes_15 : decode cX11_yearGoes 15 = .ok (.aload_n 0, 1) := by decide +kernel
theorem dX11_yearGoes_16 : decode cX11_yearGoes 16 = .ok (.getfield 107, 3) := by decide +kernel
theorem dX11_yearGoes_19 : decode cX11_yearGoes 19 = .ok (.iload_n 1, 1) := by decide +kernel
theorem dX11_yearGoes_20 : decode cX11_yearGoes 20 = .ok (.aload_n 0, 1) := by decide +kernel
theorem dX11_yearGoes_21 : decode cX11_yearGoes 21 = .ok (.bipush 8, 2) := by decide +kernel
theorem dX11_yearGoes_23 : decode cX11_yearGoes 23 = .ok (.aload_n 0, 1) := by decide +kernel
theorem dX11_yearGoes_24 : decode cX11_yearGoes 24 = .ok (.getfield 101, 3) := by decide +kernel
theorem dX11_yearGoes_27 : decode cX11_yearGoes 27 = .ok (.bipush 27, 2) := by decide +kernel
theorem dX11_yearGoes_29 : decode cX11_yearGoes 29 = .ok (.iaload, 1) := by decide +kernel
theorem dX11_yearGoes_30 : decode cX11_yearGoes 30 = .ok (.imul, 1) := by decide +kernel
theorem dX11_yearGoes_31 : decode cX11_yearGoes 31 = .ok (.ldc_w 342, 3) := by decide +kernel
theorem dX11_yearGoes_34 : decode cX11_yearGoes 34 = .ok (.iadd, 1) := by decide +kernel
theorem dX11_yearGoes_35 : decode cX11_yearGoes 35 = .ok (.iload_n 1, 1) := by decide +kernel
theorem dX11_yearGoes_36 : decode cX11_yearGoes 36 = .ok (.iadd, 1) := by decide +kernel
theorem dX11_yearGoes_37 : decode cX11_yearGoes 37 = .ok (.bipush 100, 2) := by decide +kernel
theorem dX11_yearGoes_39 : decode cX11_yearGoes 39 = .ok (.invokevirtual 300, 3) := by decide +kernel
theorem dX11_yearGoes_42 : decode cX11_yearGoes 42 = .ok (.aload_n 0, 1) := by decide +kernel
theorem dX11_yearGoes_43 : decode cX11_yearGoes 43 = .ok (.iload_n 1, 1) := by decide +kernel
theorem dX11_yearGoes_44 : decode cX11_yearGoes 44 = .ok (.invokevirtual 343, 3) := by decide +kernel
theorem dX11_yearGoes_47 : decode cX11_yearGoes 47 = .ok (.if_icmp .ge 7, 3) := by decide +kernel
theorem dX11_yearGoes_50 : decode cX11_yearGoes 50 = .ok (.iconst 1, 1) := by decide +kernel
theorem dX11_yearGoes_51 : decode cX11_yearGoes 51 = .ok (.goto 4, 3) := by decide +kernel
theorem dX11_yearGoes_54 : decode cX11_yearGoes 54 = .ok (.iconst 0, 1) := by decide +kernel
theorem dX11_yearGoes_55 : decode cX11_yearGoes 55 = .ok (.bastore, 1) := by decide +kernel
theorem dX11_yearGoes_56 : decode cX11_yearGoes 56 = .ok (.iinc 1 1, 3) := by decide +kernel
theorem dX11_yearGoes_59 : decode cX11_yearGoes 59 = .ok (.goto (-57), 3) := by decide +kernel
theorem dX11_yearGoes_62 : decode cX11_yearGoes 62 = .ok (.iconst 0, 1) := by decide +kernel
theorem dX11_yearGoes_63 : decode cX11_yearGoes 63 = .ok (.istore_n 1, 1) := by decide +kernel
theorem dX11_yearGoes_64 : decode cX11_yearGoes 64 = .ok (.iload_n 1, 1) := by decide +kernel
theorem dX11_yearGoes_65 : decode cX11_yearGoes 65 = .ok (.aload_n 0, 1) := by decide +kernel
theorem dX11_yearGoes_66 : decode cX11_yearGoes 66 = .ok (.getfield 40, 3) := by decide +kernel
theorem dX11_yearGoes_69 : decode cX11_yearGoes 69 = .ok (.aload_n 0, 1) := by decide +kernel
theorem dX11_yearGoes_70 : decode cX11_yearGoes 70 = .ok (.getfield 215, 3) := by decide +kernel
theorem dX11_yearGoes_73 : decode cX11_yearGoes 73 = .ok (.iaload, 1) := by decide +kernel
theorem dX11_yearGoes_74 : decode cX11_yearGoes 74 = .ok (.if_icmp .ge 51, 3) := by decide +kernel
theorem dX11_yearGoes_77 : decode cX11_yearGoes 77 = .ok (.aload_n 0, 1) := by decide +kernel
theorem dX11_yearGoes_78 : decode cX11_yearGoes 78 = .ok (.getfield 107, 3) := by decide +kernel
theorem dX11_yearGoes_81 : decode cX11_yearGoes 81 = .ok (.iload_n 1, 1) := by decide +kernel
theorem dX11_yearGoes_82 : decode cX11_yearGoes 82 = .ok (.baload, 1) := by decide +kernel
theorem dX11_yearGoes_83 : decode cX11_yearGoes 83 = .ok (.ifCond .ne 6, 3) := by decide +kernel
theorem dX11_yearGoes_86 : decode cX11_yearGoes 86 = .ok (.goto 33, 3) := by decide +kernel
theorem dX11_yearGoes_89 : decode cX11_yearGoes 89 = .ok (.aload_n 0, 1) := by decide +kernel
theorem dX11_yearGoes_90 : decode cX11_yearGoes 90 = .ok (.getfield 101, 3) := by decide +kernel
theorem dX11_yearGoes_93 : decode cX11_yearGoes 93 = .ok (.iload_n 1, 1) := by decide +kernel
theorem dX11_yearGoes_94 : decode cX11_yearGoes 94 = .ok (.iconst 0, 1) := by decide +kernel
theorem dX11_yearGoes_95 : decode cX11_yearGoes 95 = .ok (.iastore, 1) := by decide +kernel
theorem dX11_yearGoes_96 : decode cX11_yearGoes 96 = .ok (.aload_n 0, 1) := by decide +kernel
theorem dX11_yearGoes_97 : decode cX11_yearGoes 97 = .ok (.getfield 101, 3) := by decide +kernel
theorem dX11_yearGoes_100 : decode cX11_yearGoes 100 = .ok (.iconst 5, 1) := by decide +kernel
theorem dX11_yearGoes_101 : decode cX11_yearGoes 101 = .ok (.iload_n 1, 1) := by decide +kernel
theorem dX11_yearGoes_102 : decode cX11_yearGoes 102 = .ok (.iadd, 1) := by decide +kernel
theorem dX11_yearGoes_103 : decode cX11_yearGoes 103 = .ok (.bipush (-2), 2) := by decide +kernel
theorem dX11_yearGoes_105 : decode cX11_yearGoes 105 = .ok (.iastore, 1) := by decide +kernel
theorem dX11_yearGoes_106 : decode cX11_yearGoes 106 = .ok (.aload_n 0, 1) := by decide +kernel
theorem dX11_yearGoes_107 : decode cX11_yearGoes 107 = .ok (.getfield 101, 3) := by decide +kernel
theorem dX11_yearGoes_110 : decode cX11_yearGoes 110 = .ok (.bipush 10, 2) := by decide +kernel
theorem dX11_yearGoes_112 : decode cX11_yearGoes 112 = .ok (.iload_n 1, 1) := by decide +kernel
theorem dX11_yearGoes_113 : decode cX11_yearGoes 113 = .ok (.iadd, 1) := by decide +kernel
theorem dX11_yearGoes_114 : decode cX11_yearGoes 114 = .ok (.dup2, 1) := by decide +kernel
theorem dX11_yearGoes_115 : decode cX11_yearGoes 115 = .ok (.iaload, 1) := by decide +kernel
theorem dX11_yearGoes_116 : decode cX11_yearGoes 116 = .ok (.iconst 1, 1) := by decide +kernel
theorem dX11_yearGoes_117 : decode cX11_yearGoes 117 = .ok (.iadd, 1) := by decide +kernel
theorem dX11_yearGoes_118 : decode cX11_yearGoes 118 = .ok (.iastore, 1) := by decide +kernel
theorem dX11_yearGoes_119 : decode cX11_yearGoes 119 = .ok (.iinc 1 1, 3) := by decide +kernel
theorem dX11_yearGoes_122 : decode cX11_yearGoes 122 = .ok (.goto (-58), 3) := by decide +kernel
theorem dX11_yearGoes_125 : decode cX11_yearGoes 125 = .ok (.aload_n 0, 1) := by decide +kernel
theorem dX11_yearGoes_126 : decode cX11_yearGoes 126 = .ok (.getfield 101, 3) := by decide +kernel
theorem dX11_yearGoes_129 : decode cX11_yearGoes 129 = .ok (.bipush 27, 2) := by decide +kernel
theorem dX11_yearGoes_131 : decode cX11_yearGoes 131 = .ok (.dup2, 1) := by decide +kernel
theorem dX11_yearGoes_132 : decode cX11_yearGoes 132 = .ok (.iaload, 1) := by decide +kernel
theorem dX11_yearGoes_133 : decode cX11_yearGoes 133 = .ok (.iconst 1, 1) := by decide +kernel
theorem dX11_yearGoes_134 : decode cX11_yearGoes 134 = .ok (.iadd, 1) := by decide +kernel
theorem dX11_yearGoes_135 : decode cX11_yearGoes 135 = .ok (.iastore, 1) := by decide +kernel
theorem dX11_yearGoes_136 : decode cX11_yearGoes 136 = .ok (.return_, 1) := by decide +kernel
set_option maxRecDepth 20000 in
theorem ggX11_yearsGo_X11_yearGoes : GoodIn wsX11_yearsGo wsX11_yearGoes := goodIn_r _ [5, 6, 7, 8, 9, 10, 11, 12, 13, 4, 14, 15, 16, 17, 18, 19, 20, 21, 22, 23, 24, 25, 26, 27, 28, 29, 30, 31, 32, 33, 34, 35, 36, 37, 38, 39, 40, 41, 42, 43, 44, 45, 46, 47, 48, 49, 50, 51, 52, 53, 54, 55, 56, 57, 58, 59, 60, 61, 62, 63, 64, 65, 66, 67, 68, 69, 70, 71, 72, 73, 74, 75, 76, 77, 78, 79, 80, 81, 82, 83, 84, 85, 86, 87, 88, 89, 90, 91, 92, 93, 94, 95, 96, 97, 98, 99, 100, 101, 102, 103, 104, 105, 106, 107, 108, 109, 110, 111, 112, 113, 114, 115, 116, 117, 118, 119, 120, 121, 122, 123, 124, 125, 126] (by decide +kernel) (by decide +kernel)
set_option maxRecDepth 20000 in
theorem gX11_yearsGo_X11_yearGoes : GoodIn wsX11_yearsGo (wsV RX11 346 RX11 yX11_yearGoes wsX11_yearGoes) := goodIn_app (goodIn_of _ (by decide +kernel)) ggX11_yearsGo_X11_yearGoes
theorem dX11_yearsGo_0 : decode cX11_yearsGo 0 = .ok (.iconst 0, 1) := by decide +kernel
theorem dX11_yearsGo_1 : decode cX11_yearsGo 1 = .ok (.istore_n 2, 1) := by decide +kernel
theorem dX11_yearsGo_2 : decode cX11_yearsGo 2 = .ok (.iload_n 2, 1) := by decide +kernel
theorem dX11_yearsGo_3 : decode cX11_yearsGo 3 = .ok (.iload_n 1, 1) := by decide +kernel
theorem dX11_yearsGo_4 : decode cX11_yearsGo 4 = .ok (.if_icmp .ge 13, 3) := by decide +kernel
theorem dX11_yearsGo_7 : decode cX11_yearsGo 7 = .ok (.aload_n 0, 1) := by decide +kernel
theorem dX11_yearsGo_8 : decode cX11_yearsGo 8 = .ok (.invokevirtual 346, 3) := by decide +kernel
theorem dX11_yearsGo_11 : decode cX11_yearsGo 11 = .ok (.iinc 2 1, 3) := by decide +kernel
theorem dX11_yearsGo_14 : decode cX11_yearsGo 14 = .ok (.goto (-12), 3) := by decide +kernel
theorem dX11_yearsGo_17 : decode cX11_yearsGo 17 = .ok (.return_, 1) := by decide +kernel
set_option maxRecDepth 20000 in
theorem ggX11_wave_X11_isWave : GoodIn wsX11_wave wsX11_isWave := goodIn_r _ [6, 7, 8, 9, 10, 5, 11, 80, 81, 82, 83, 84, 85, 86, 87, 88, 89, 90, 91, 92, 93, 94, 95, 96, 97, 98, 99, 100, 101, 102, 103, 104, 105, 106, 107, 108, 109, 110, 111, 112, 113, 114, 115, 116, 117, 118, 119, 120, 121, 122, 123, 124, 125, 126, 127, 128, 129, 130, 131, 132, 133, 134, 135, 136, 137] (by decide +kernel) (by decide +kernel)
set_option maxRecDepth 20000 in
theorem gX11_wave_X11_isWave : GoodIn wsX11_wave (wsV RX11 349 RX11 yX11_isWave wsX11_isWave) := goodIn_app (goodIn_of _ (by decide +kernel)) ggX11_wave_X11_isWave
set_option maxRecDepth 20000 in
theorem ggX11_wave_X11_copies : GoodIn wsX11_wave wsX11_copies := goodIn_r _ [15, 1, 16, 17, 8, 18, 80, 81, 82, 83, 84, 85, 86, 87, 88, 89, 90, 91, 92, 93, 94, 95, 96, 97, 98, 99, 100, 101, 102, 103, 104, 105, 106, 107, 108, 109, 110, 111, 112, 113, 114, 115, 116, 117, 118, 119, 120, 121, 122, 123, 124, 125, 126, 127, 128, 129, 130, 131, 132, 133, 134, 135, 136, 137] (by decide +kernel) (by decide +kernel)
set_option maxRecDepth 20000 in
theorem gX11_wave_X11_copies : GoodIn wsX11_wave (wsV RX11 352 RX11 yX11_copies wsX11_copies) := goodIn_app (goodIn_of _ (by decide +kernel)) ggX11_wave_X11_copies
set_option maxRecDepth 20000 in
theorem ggX11_wave_X11_mayAt : GoodIn wsX11_wave wsX11_mayAt := goodIn_r _ [22, 1, 23, 24, 25, 5, 26, 27, 8, 80, 81, 82, 83, 84, 85, 86, 87, 88, 89, 90, 91, 92, 93, 94, 95, 96, 97, 98, 99, 100, 101, 102, 103, 104, 105, 106, 107, 108, 109, 110, 111, 112, 113, 114, 115, 116, 117, 118, 119, 120, 121, 122, 123, 124, 125, 126, 127, 128, 129, 130, 131, 132, 133, 134, 135, 136, 137] (by decide +kernel) (by decide +kernel)
set_option maxRecDepth 20000 in
theorem gX11_wave_X11_mayAt : GoodIn wsX11_wave (wsV RX11 309 RX11 yX11_mayAt wsX11_mayAt) := goodIn_app (goodIn_of _ (by decide +kernel)) ggX11_wave_X11_mayAt
set_option maxRecDepth 20000 in
theorem ggX11_wave_X11_thereAt : GoodIn wsX11_wave wsX11_thereAt := goodIn_r _ [31, 1, 23, 24, 25, 5, 26, 27, 8, 32, 33, 34, 35, 18, 36, 37, 38, 39, 80, 81, 82, 83, 84, 85, 86, 87, 88, 89, 90, 91, 92, 93, 94, 95, 96, 97, 98, 99, 100, 101, 102, 103, 104, 105, 106, 107, 108, 109, 110, 111, 112, 113, 114, 115, 116, 117, 118, 119, 120, 121, 122, 123, 124, 125, 126, 127, 128, 129, 130, 131, 132, 133, 134, 135, 136, 137] (by decide +kernel) (by decide +kernel)
set_option maxRecDepth 20000 in
theorem gX11_wave_X11_thereAt : GoodIn wsX11_wave (wsV RX11 303 RX11 yX11_thereAt wsX11_thereAt) := goodIn_app (goodIn_of _ (by decide +kernel)) ggX11_wave_X11_thereAt
set_option maxRecDepth 20000 in
theorem ggX11_wave_X11_shiftsOf : GoodIn wsX11_wave wsX11_shiftsOf := goodIn_r _ [43, 44, 45, 46, 5, 47, 48, 1, 49, 8, 50, 51, 52, 53, 54, 19, 20, 21, 22, 23, 24, 25, 26, 27, 55, 56, 57, 58, 59, 60, 61, 62, 63, 64, 65, 66, 67, 68, 69, 70, 71, 72, 73, 74, 75, 76, 77, 78, 79, 80, 81, 82, 83, 84, 85, 86, 87, 88, 89, 90, 91, 92, 93, 94, 95, 96, 97, 98, 99, 100, 101, 102, 103, 104, 105, 106, 107, 108, 109, 110, 111, 112, 113, 114, 115, 116, 117, 118, 119, 120, 121, 122, 123, 124, 125, 126, 127, 128, 129, 130, 131, 132, 133, 134, 135, 136, 137] (by decide +kernel) (by decide +kernel)
set_option maxRecDepth 20000 in
theorem gX11_wave_X11_shiftsOf : GoodIn wsX11_wave (wsV RX11 343 RX11 yX11_shiftsOf wsX11_shiftsOf) := goodIn_app (goodIn_of _ (by decide +kernel)) ggX11_wave_X11_shiftsOf
theorem dX11_wave_0 : decode cX11_wave 0 = .ok (.aload_n 0, 1) := by decide +kernel
theorem dX11_wave_1 : decode cX11_wave 1 = .ok (.iload_n 1, 1) := by decide +kernel
theorem dX11_wave_2 : decode cX11_wave 2 = .ok (.invokevirtual 349, 3) := by decide +kernel
theorem dX11_wave_5 : decode cX11_wave 5 = .ok (.ifCond .ne 5, 3) := by decide +kernel
theorem dX11_wave_8 : decode cX11_wave 8 = .ok (.iconst (-1), 1) := by decide +kernel
theorem dX11_wave_9 : decode cX11_wave 9 = .ok (.ireturn, 1) := by decide +kernel
theorem dX11_wave_10 : decode cX11_wave 10 = .ok (.aload_n 0, 1) := by decide +kernel
theorem dX11_wave_11 : decode cX11_wave 11 = .ok (.invokevirtual 352, 3) := by decide +kernel
theorem dX11_wave_14 : decode cX11_wave 14 = .ok (.iload_n 2, 1) := by decide +kernel
theorem dX11_wave_15 : decode cX11_wave 15 = .ok (.tableswitch 81 0 5 #[37, 43, 52, 59, 69, 75], 37) := by decide +kernel
theorem dX11_wave_52 : decode cX11_wave 52 = .ok (.aload_n 0, 1) := by decide +kernel
theorem dX11_wave_53 : decode cX11_wave 53 = .ok (.iload_n 1, 1) := by decide +kernel
theorem dX11_wave_54 : decode cX11_wave 54 = .ok (.invokevirtual 309, 3) := by decide +kernel
theorem dX11_wave_57 : decode cX11_wave 57 = .ok (.ireturn, 1) := by decide +kernel
theorem dX11_wave_58 : decode cX11_wave 58 = .ok (.aload_n 0, 1) := by decide +kernel
theorem dX11_wave_59 : decode cX11_wave 59 = .ok (.getfield 101, 3) := by decide +kernel
theorem dX11_wave_62 : decode cX11_wave 62 = .ok (.iconst 5, 1) := by decide +kernel
theorem dX11_wave_63 : decode cX11_wave 63 = .ok (.iload_n 1, 1) := by decide +kernel
theorem dX11_wave_64 : decode cX11_wave 64 = .ok (.iadd, 1) := by decide +kernel
theorem dX11_wave_65 : decode cX11_wave 65 = .ok (.iaload, 1) := by decide +kernel
theorem dX11_wave_66 : decode cX11_wave 66 = .ok (.ireturn, 1) := by decide +kernel
theorem dX11_wave_67 : decode cX11_wave 67 = .ok (.aload_n 0, 1) := by decide +kernel
theorem dX11_wave_68 : decode cX11_wave 68 = .ok (.getfield 101, 3) := by decide +kernel
theorem dX11_wave_71 : decode cX11_wave 71 = .ok (.iload_n 1, 1) := by decide +kernel
theorem dX11_wave_72 : decode cX11_wave 72 = .ok (.iaload, 1) := by decide +kernel
theorem dX11_wave_73 : decode cX11_wave 73 = .ok (.ireturn, 1) := by decide +kernel
theorem dX11_wave_74 : decode cX11_wave 74 = .ok (.aload_n 0, 1) := by decide +kernel
theorem dX11_wave_75 : decode cX11_wave 75 = .ok (.getfield 101, 3) := by decide +kernel
theorem dX11_wave_78 : decode cX11_wave 78 = .ok (.bipush 10, 2) := by decide +kernel
theorem dX11_wave_80 : decode cX11_wave 80 = .ok (.iload_n 1, 1) := by decide +kernel
theorem dX11_wave_81 : decode cX11_wave 81 = .ok (.iadd, 1) := by decide +kernel
theorem dX11_wave_82 : decode cX11_wave 82 = .ok (.iaload, 1) := by decide +kernel
theorem dX11_wave_83 : decode cX11_wave 83 = .ok (.ireturn, 1) := by decide +kernel
theorem dX11_wave_84 : decode cX11_wave 84 = .ok (.aload_n 0, 1) := by decide +kernel
theorem dX11_wave_85 : decode cX11_wave 85 = .ok (.iload_n 1, 1) := by decide +kernel
theorem dX11_wave_86 : decode cX11_wave 86 = .ok (.invokevirtual 303, 3) := by decide +kernel
theorem dX11_wave_89 : decode cX11_wave 89 = .ok (.ireturn, 1) := by decide +kernel
theorem dX11_wave_90 : decode cX11_wave 90 = .ok (.aload_n 0, 1) := by decide +kernel
theorem dX11_wave_91 : decode cX11_wave 91 = .ok (.iload_n 1, 1) := by decide +kernel
theorem dX11_wave_92 : decode cX11_wave 92 = .ok (.invokevirtual 343, 3) := by decide +kernel
theorem dX11_wave_95 : decode cX11_wave 95 = .ok (.ireturn, 1) := by decide +kernel
theorem dX11_wave_96 : decode cX11_wave 96 = .ok (.iconst (-1), 1) := by decide +kernel
theorem dX11_wave_97 : decode cX11_wave 97 = .ok (.ireturn, 1) := by decide +kernel
set_option maxRecDepth 20000 in
theorem ggX11_odds_X11_isWave : GoodIn wsX11_odds wsX11_isWave := goodIn_r _ [5, 6, 7, 8, 9, 4, 10, 19, 20, 21, 22, 23, 24, 25, 26, 27, 28, 29, 30, 31, 32, 33, 34, 35, 36, 37, 38, 39, 40, 41, 42, 43, 44, 45, 46, 47, 48, 49, 50, 51, 52, 53, 54, 55, 56, 57, 58, 59, 60, 61, 62, 63, 64, 65, 66, 67, 68, 69, 70, 71, 72, 73, 74, 75, 76] (by decide +kernel) (by decide +kernel)
set_option maxRecDepth 20000 in
theorem gX11_odds_X11_isWave : GoodIn wsX11_odds (wsV RX11 349 RX11 yX11_isWave wsX11_isWave) := goodIn_app (goodIn_of _ (by decide +kernel)) ggX11_odds_X11_isWave
set_option maxRecDepth 20000 in
theorem ggX11_odds_X11_isThing : GoodIn wsX11_odds wsX11_isThing := goodIn_r _ [13, 8, 9, 4, 10] (by decide +kernel) (by decide +kernel)
set_option maxRecDepth 20000 in
theorem gX11_odds_X11_isThing : GoodIn wsX11_odds (va_wsS RX11 355 yX11_isThing wsX11_isThing) := goodIn_app (goodIn_of _ (by decide +kernel)) ggX11_odds_X11_isThing
set_option maxRecDepth 20000 in
theorem ggX11_odds_X11_oddsAt : GoodIn wsX11_odds wsX11_oddsAt := goodIn_r _ [17, 18, 7, 19, 20, 21, 22, 23, 24, 25, 26, 27, 28, 29, 30, 31, 32, 33, 34, 35, 36, 37, 38, 39, 40, 41, 42, 43, 44, 45, 46, 47, 48, 49, 50, 51, 52, 53, 54, 55, 56, 57, 58, 59, 60, 61, 62, 63, 64, 65, 66, 67, 68, 69, 70, 71, 72, 73, 74, 75, 76] (by decide +kernel) (by decide +kernel)
set_option maxRecDepth 20000 in
theorem gX11_odds_X11_oddsAt : GoodIn wsX11_odds (wsV RX11 297 RX11 yX11_oddsAt wsX11_oddsAt) := goodIn_app (goodIn_of _ (by decide +kernel)) ggX11_odds_X11_oddsAt
theorem dX11_odds_0 : decode cX11_odds 0 = .ok (.aload_n 0, 1) := by decide +kernel
theorem dX11_odds_1 : decode cX11_odds 1 = .ok (.iload_n 1, 1) := by decide +kernel
theorem dX11_odds_2 : decode cX11_odds 2 = .ok (.invokevirtual 349, 3) := by decide +kernel
theorem dX11_odds_5 : decode cX11_odds 5 = .ok (.ifCond .eq 19, 3) := by decide +kernel
theorem dX11_odds_8 : decode cX11_odds 8 = .ok (.iload_n 2, 1) := by decide +kernel
theorem dX11_odds_9 : decode cX11_odds 9 = .ok (.invokestatic 355, 3) := by decide +kernel
theorem dX11_odds_12 : decode cX11_odds 12 = .ok (.ifCond .eq 12, 3) := by decide +kernel
theorem dX11_odds_15 : decode cX11_odds 15 = .ok (.aload_n 0, 1) := by decide +kernel
theorem dX11_odds_16 : decode cX11_odds 16 = .ok (.iload_n 1, 1) := by decide +kernel
theorem dX11_odds_17 : decode cX11_odds 17 = .ok (.iload_n 2, 1) := by decide +kernel
theorem dX11_odds_18 : decode cX11_odds 18 = .ok (.invokevirtual 297, 3) := by decide +kernel
theorem dX11_odds_21 : decode cX11_odds 21 = .ok (.goto 4, 3) := by decide +kernel
theorem dX11_odds_24 : decode cX11_odds 24 = .ok (.iconst (-1), 1) := by decide +kernel
theorem dX11_odds_25 : decode cX11_odds 25 = .ok (.ireturn, 1) := by decide +kernel
set_option maxRecDepth 20000 in
theorem ggX11_party_X11_isParty : GoodIn wsX11_party wsX11_isParty := goodIn_r _ [9, 10, 2, 11, 12, 8, 13, 56, 57, 58, 59, 60, 61, 62, 63, 64, 65, 66, 67, 68, 69, 70, 71, 72, 73, 74, 75, 76, 77, 78, 79, 80, 81, 82, 83, 84, 85, 86, 87, 88, 89, 90, 91, 92, 93, 94, 95, 96, 97, 98, 99, 100, 101, 102, 103, 104, 105, 106, 107, 108, 109, 110, 111, 112, 113] (by decide +kernel) (by decide +kernel)
set_option maxRecDepth 20000 in
theorem gX11_party_X11_isParty : GoodIn wsX11_party (wsV RX11 358 RX11 yX11_isParty wsX11_isParty) := goodIn_app (goodIn_of _ (by decide +kernel)) ggX11_party_X11_isParty
set_option maxRecDepth 20000 in
theorem ggX11_party_X11_copies : GoodIn wsX11_party wsX11_copies := goodIn_r _ [17, 4, 18, 19, 2, 20, 56, 57, 58, 59, 60, 61, 62, 63, 64, 65, 66, 67, 68, 69, 70, 71, 72, 73, 74, 75, 76, 77, 78, 79, 80, 81, 82, 83, 84, 85, 86, 87, 88, 89, 90, 91, 92, 93, 94, 95, 96, 97, 98, 99, 100, 101, 102, 103, 104, 105, 106, 107, 108, 109, 110, 111, 112, 113] (by decide +kernel) (by decide +kernel)
set_option maxRecDepth 20000 in
theorem gX11_party_X11_copies : GoodIn wsX11_party (wsV RX11 352 RX11 yX11_copies wsX11_copies) := goodIn_app (goodIn_of _ (by decide +kernel)) ggX11_party_X11_copies
set_option maxRecDepth 20000 in
theorem ggX11_party_X11_faresOf : GoodIn wsX11_party wsX11_faresOf := goodIn_r _ [24, 25, 26, 27, 8, 28, 29, 4, 1, 2, 3, 30, 31, 32, 33, 34, 35, 36, 37, 38, 39, 40, 41, 42, 43, 44, 45, 46, 47, 48, 49, 50, 51, 56, 57, 58, 59, 60, 61, 62, 63, 64, 65, 66, 67, 68, 69, 70, 71, 72, 73, 74, 75, 76, 77, 78, 79, 80, 81, 82, 83, 84, 85, 86, 87, 88, 89, 90, 91, 92, 93, 94, 95, 96, 97, 98, 99, 100, 101, 102, 103, 104, 105, 106, 107, 108, 109, 110, 111, 112, 113] (by decide +kernel) (by decide +kernel)
set_option maxRecDepth 20000 in
theorem gX11_party_X11_faresOf : GoodIn wsX11_party (wsV RX11 339 RX11 yX11_faresOf wsX11_faresOf) := goodIn_app (goodIn_of _ (by decide +kernel)) ggX11_party_X11_faresOf
set_option maxRecDepth 20000 in
theorem ggX11_party_X11_doesDare : GoodIn wsX11_party wsX11_doesDare := goodIn_r _ [55, 25, 26, 27, 8, 28, 29, 4, 1, 2, 3, 30, 31, 32, 33, 34, 35, 36, 37, 38, 39, 40, 41, 42, 43, 44, 45, 46, 47, 48, 56, 57, 58, 59, 60, 61, 62, 63, 64, 65, 66, 67, 68, 69, 70, 71, 72, 73, 74, 75, 76, 77, 78, 79, 80, 81, 82, 83, 84, 85, 86, 87, 88, 89, 90, 91, 92, 93, 94, 95, 96, 97, 98, 99, 100, 101, 102, 103, 104, 105, 106, 107, 108, 109, 110, 111, 112, 113] (by decide +kernel) (by decide +kernel)
set_option maxRecDepth 20000 in
theorem gX11_party_X11_doesDare : GoodIn wsX11_party (wsV RX11 361 RX11 yX11_doesDare wsX11_doesDare) := goodIn_app (goodIn_of _ (by decide +kernel)) ggX11_party_X11_doesDare
theorem dX11_party_0 : decode cX11_party 0 = .ok (.aload_n 0, 1) := by decide +kernel
theorem dX11_party_1 : decode cX11_party 1 = .ok (.iload_n 1, 1) := by decide +kernel
theorem dX11_party_2 : decode cX11_party 2 = .ok (.invokevirtual 358, 3) := by decide +kernel
theorem dX11_party_5 : decode cX11_party 5 = .ok (.ifCond .ne 5, 3) := by decide +kernel
theorem dX11_party_8 : decode cX11_party 8 = .ok (.iconst (-1), 1) := by decide +kernel
theorem dX11_party_9 : decode cX11_party 9 = .ok (.ireturn, 1) := by decide +kernel
theorem dX11_party_10 : decode cX11_party 10 = .ok (.aload_n 0, 1) := by decide +kernel
theorem dX11_party_11 : decode cX11_party 11 = .ok (.invokevirtual 352, 3) := by decide +kernel
theorem dX11_party_14 : decode cX11_party 14 = .ok (.iload_n 2, 1) := by decide +kernel
theorem dX11_party_15 : decode cX11_party 15 = .ok (.tableswitch 107 0 5 #[37, 52, 67, 77, 87, 93], 37) := by decide +kernel
theorem dX11_party_52 : decode cX11_party 52 = .ok (.aload_n 0, 1) := by decide +kernel
theorem dX11_party_53 : decode cX11_party 53 = .ok (.getfield 52, 3) := by decide +kernel
theorem dX11_party_56 : decode cX11_party 56 = .ok (.bipush 6, 2) := by decide +kernel
theorem dX11_party_58 : decode cX11_party 58 = .ok (.aload_n 0, 1) := by decide +kernel
theorem dX11_party_59 : decode cX11_party 59 = .ok (.getfield 215, 3) := by decide +kernel
theorem dX11_party_62 : decode cX11_party 62 = .ok (.imul, 1) := by decide +kernel
theorem dX11_party_63 : decode cX11_party 63 = .ok (.iload_n 1, 1) := by decide +kernel
theorem dX11_party_64 : decode cX11_party 64 = .ok (.iadd, 1) := by decide +kernel
theorem dX11_party_65 : decode cX11_party 65 = .ok (.iaload, 1) := by decide +kernel
theorem dX11_party_66 : decode cX11_party 66 = .ok (.ireturn, 1) := by decide +kernel
theorem dX11_party_67 : decode cX11_party 67 = .ok (.aload_n 0, 1) := by decide +kernel
theorem dX11_party_68 : decode cX11_party 68 = .ok (.getfield 55, 3) := by decide +kernel
theorem dX11_party_71 : decode cX11_party 71 = .ok (.bipush 6, 2) := by decide +kernel
theorem dX11_party_73 : decode cX11_party 73 = .ok (.aload_n 0, 1) := by decide +kernel
theorem dX11_party_74 : decode cX11_party 74 = .ok (.getfield 215, 3) := by decide +kernel
theorem dX11_party_77 : decode cX11_party 77 = .ok (.imul, 1) := by decide +kernel
theorem dX11_party_78 : decode cX11_party 78 = .ok (.iload_n 1, 1) := by decide +kernel
theorem dX11_party_79 : decode cX11_party 79 = .ok (.iadd, 1) := by decide +kernel
theorem dX11_party_80 : decode cX11_party 80 = .ok (.iaload, 1) := by decide +kernel
theorem dX11_party_81 : decode cX11_party 81 = .ok (.ireturn, 1) := by decide +kernel
theorem dX11_party_82 : decode cX11_party 82 = .ok (.aload_n 0, 1) := by decide +kernel
theorem dX11_party_83 : decode cX11_party 83 = .ok (.getfield 101, 3) := by decide +kernel
theorem dX11_party_86 : decode cX11_party 86 = .ok (.bipush 15, 2) := by decide +kernel
theorem dX11_party_88 : decode cX11_party 88 = .ok (.iload_n 1, 1) := by decide +kernel
theorem dX11_party_89 : decode cX11_party 89 = .ok (.iadd, 1) := by decide +kernel
theorem dX11_party_90 : decode cX11_party 90 = .ok (.iaload, 1) := by decide +kernel
theorem dX11_party_91 : decode cX11_party 91 = .ok (.ireturn, 1) := by decide +kernel
theorem dX11_party_92 : decode cX11_party 92 = .ok (.aload_n 0, 1) := by decide +kernel
theorem dX11_party_93 : decode cX11_party 93 = .ok (.getfield 101, 3) := by decide +kernel
theorem dX11_party_96 : decode cX11_party 96 = .ok (.bipush 21, 2) := by decide +kernel
theorem dX11_party_98 : decode cX11_party 98 = .ok (.iload_n 1, 1) := by decide +kernel
theorem dX11_party_99 : decode cX11_party 99 = .ok (.iadd, 1) := by decide +kernel
theorem dX11_party_100 : decode cX11_party 100 = .ok (.iaload, 1) := by decide +kernel
theorem dX11_party_101 : decode cX11_party 101 = .ok (.ireturn, 1) := by decide +kernel
theorem dX11_party_102 : decode cX11_party 102 = .ok (.aload_n 0, 1) := by decide +kernel
theorem dX11_party_103 : decode cX11_party 103 = .ok (.iload_n 1, 1) := by decide +kernel
theorem dX11_party_104 : decode cX11_party 104 = .ok (.invokevirtual 339, 3) := by decide +kernel
theorem dX11_party_107 : decode cX11_party 107 = .ok (.ireturn, 1) := by decide +kernel
theorem dX11_party_108 : decode cX11_party 108 = .ok (.aload_n 0, 1) := by decide +kernel
theorem dX11_party_109 : decode cX11_party 109 = .ok (.iload_n 1, 1) := by decide +kernel
theorem dX11_party_110 : decode cX11_party 110 = .ok (.invokevirtual 361, 3) := by decide +kernel
theorem dX11_party_113 : decode cX11_party 113 = .ok (.ifCond .eq 7, 3) := by decide +kernel
theorem dX11_party_116 : decode cX11_party 116 = .ok (.iconst 1, 1) := by decide +kernel
theorem dX11_party_117 : decode cX11_party 117 = .ok (.goto 4, 3) := by decide +kernel
theorem dX11_party_120 : decode cX11_party 120 = .ok (.iconst 0, 1) := by decide +kernel
theorem dX11_party_121 : decode cX11_party 121 = .ok (.ireturn, 1) := by decide +kernel
theorem dX11_party_122 : decode cX11_party 122 = .ok (.iconst (-1), 1) := by decide +kernel
theorem dX11_party_123 : decode cX11_party 123 = .ok (.ireturn, 1) := by decide +kernel
theorem LX11_goesBy_101 : Cond.fieldLink RX11 101 "GuessFerryModel" "row" "[I" ∈ wsX11_goesBy := by decide +kernel
theorem LX11_goesBy_215 : Cond.fieldLink RX11 215 "GuessFerryModel" "live" "I" ∈ wsX11_goesBy := by decide +kernel
theorem LX11_goesBy_40 : Cond.fieldLink RX11 40 "GuessFerryModel" "waves" "[I" ∈ wsX11_goesBy := by decide +kernel
theorem inX11_goesBy_X11 : ∀ w ∈ u_ws RX11 TX11 58, w ∈ wsX11_goesBy := by decide +kernel
set_option maxHeartbeats 4000000 in
set_option maxRecDepth 100000 in
theorem br_goesBy_39 {l : Launch} {dC : Nat → ClassId} {dI : Nat → Nat → Nat} {cB cI cJ cZ cS : ClassId} {h : Nat} {a : Nat → Nat} {as : List Value} {r : Int32} {s' : RS} {k39 : RS → Int32 → Int32 → Int32 → Int32 → Int32 → Option (Int32 × RS)} (hk39 : ∀ (s : RS) (x1 : Int32) (x2 : Int32) (x3 : Int32) (x4 : Int32) (x5 : Int32), k39 s x1 x2 x3 x4 x5 = some (r, s') → BlkI l yX11_goesBy wsX11_goesBy ({ frames := 6, cells := 0, slots := 0, locals := 135 }) cX11_goesBy 7 (some .int) (dC, dI) (tysA cB cI cJ cZ cS) as 39 (mwS cB cI cJ cZ h a s) [(0, .ref h), (1, .int x1), (2, .int x2), (3, .int x3), (4, .int x4), (5, .int x5)] [] (fun x u => x = r ∧ u = (mwS cB cI cJ cZ h a s'))) (s : RS) (x1 : Int32) (x2 : Int32) (x3 : Int32) (x4 : Int32) (x5 : Int32) (hB : r_goesBy_39 k39 s x1 x2 x3 x4 x5 = some (r, s')) : BlkI l yX11_goesBy wsX11_goesBy ({ frames := 6, cells := 0, slots := 0, locals := 135 }) cX11_goesBy 7 (some .int) (dC, dI) (tysA cB cI cJ cZ cS) as 39 (mwS cB cI cJ cZ h a s) [(0, .ref h), (1, .int x1), (2, .int x2), (3, .int x3), (4, .int x4), (5, .int x5)] [] (fun x u => x = r ∧ u = (mwS cB cI cJ cZ h a s')) := by
  intro p e s0 m below meth c A E H locs ls hP hD hS hl
  obtain ⟨C, hr, hlocks, hA, hK, hN⟩ := id E
  obtain ⟨hx, hb, hml, hown, hts⟩ := id C
  unfold r_goesBy_39 at hB
  refine lv_iload hx hb dX11_goesBy_39 (lv_at hl 5 rfl) ?_
  refine lv_aload_n hx hb dX11_goesBy_41 rfl (lv_at hl 0 rfl) ?_
  refine q_get (v := .ref (a 20)) C inX11_goesBy_X11 hK hP 0 rfl rfl 20 (by decide) rfl LX11_goesBy_40 rfl dX11_goesBy_42 ?_
  refine lv_aload_n hx hb dX11_goesBy_45 rfl (lv_at hl 0 rfl) ?_
  refine q_get (v := .int (s.v 18)) C inX11_goesBy_X11 hK hP 0 rfl rfl 18 (by decide) rfl LX11_goesBy_215 rfl dX11_goesBy_46 ?_
  obtain ⟨g1, hB⟩ := guard_inv hB
  refine q_iald (x := (s.f 20 (Int32.toNatClampNeg (s.v 18)))) C hK hP 8 1 rfl rfl (vpb_in g1) dX11_goesBy_49 rfl ?_
  refine lv_icmp_ge (tgt := 128) hx hb dX11_goesBy_50 (by decide) (fun c2 => ?_) (fun c2 => ?_)
  · have hB := if_p hB c2
    refine lv_aload_n hx hb dX11_goesBy_128 rfl (lv_at hl 0 rfl) ?_
    refine q_get (v := .ref (a 44)) C inX11_goesBy_X11 hK hP 0 rfl rfl 44 (by decide) rfl LX11_goesBy_101 rfl dX11_goesBy_129 ?_
    refine lv_bipush (v := 15) hx hb dX11_goesBy_132 (by decide) ?_
    refine lv_iload_n hx hb dX11_goesBy_134 rfl (lv_at hl 1 rfl) ?_
    refine lv_iadd hx hb dX11_goesBy_135 ?_
    refine lv_iconst (v := 2) hx hb dX11_goesBy_136 (by decide) ?_
    obtain ⟨g3, hB⟩ := guard_inv hB
    obtain ⟨s4, hs5, hB⟩ := letS_inv hB
    refine q_iast (f2 := (upd (s.f 44) (Int32.toNatClampNeg (15 + x1)) 2)) (w2 := (mwS cB cI cJ cZ h a s4)) C hK hP hD hS 28 1 rfl rfl (vpb_in g3) dX11_goesBy_137 rfl (mwS_f44 hs5) (fun H locs hP hD hS => ?_)
    refine lv_aload_n hx hb dX11_goesBy_138 rfl (lv_at hl 0 rfl) ?_
    refine q_get (v := .ref (a 20)) C inX11_goesBy_X11 hK hP 0 rfl rfl 20 (by decide) rfl LX11_goesBy_40 rfl dX11_goesBy_139 ?_
    refine lv_aload_n hx hb dX11_goesBy_142 rfl (lv_at hl 0 rfl) ?_
    refine q_get (v := .int (s4.v 18)) C inX11_goesBy_X11 hK hP 0 rfl rfl 18 (by decide) rfl LX11_goesBy_215 rfl dX11_goesBy_143 ?_
    obtain ⟨g6, hB⟩ := guard_inv hB
    refine q_iald (x := (s4.f 20 (Int32.toNatClampNeg (s4.v 18)))) C hK hP 8 1 rfl rfl (vpb_in g6) dX11_goesBy_146 rfl ?_
    exact q_iret C hr hlocks hK hP hD hS (Nat.le_of_ble_eq_true rfl) (Nat.le_of_ble_eq_true rfl) dX11_goesBy_147 (by cases hB; exact ⟨rfl, rfl⟩)
  · have hB := if_n hB c2
    refine lv_aload_n hx hb dX11_goesBy_53 rfl (lv_at hl 0 rfl) ?_
    refine lv_iload_n hx hb dX11_goesBy_54 rfl (lv_at hl 2 rfl) ?_
    refine lv_iload hx hb dX11_goesBy_55 (lv_at hl 5 rfl) ?_
    obtain ⟨q_, s7, hc, hB⟩ := bindI_inv hB
    refine q_goiF (va_runV (As := [.int x2, .int x5]) (rest := []) C (cr_thingAt hc _) (cwV 2 hts gX11_goesBy_X11_thingAt rfl rfl rfl (by decide +kernel) ⟨Nat.le_of_ble_eq_true rfl, Nat.le_of_ble_eq_true rfl⟩) (q_preV hK hP (ci := 11) (q0 := 0) rfl rfl rfl (q_preF hN hK hP hD)) rfl rfl hl.1 rfl (lv_room (Nat.le_of_ble_eq_true rfl)) dX11_goesBy_57 ⟨Nat.le_of_ble_eq_true rfl, Nat.le_of_ble_eq_true rfl⟩) hD hS hA (fun r8 w1 H locs hw hP hD hS => ?_)
    obtain ⟨hq_, hw⟩ := hw; subst hw; subst hq_
    refine lv_istore (lv' := [(6, .int r8), (0, .ref h), (1, .int x1), (2, .int x2), (3, .int x3), (4, .int x4), (5, .int x5)]) hx hb dX11_goesBy_60 hl (by decide) rfl (fun ls hl => ?_)
    refine lv_iload hx hb dX11_goesBy_62 (lv_at hl 6 rfl) ?_
    refine lv_iload hx hb dX11_goesBy_64 (lv_at hl 5 rfl) ?_
    refine lv_icmp_ne (tgt := 82) hx hb dX11_goesBy_66 (by decide) (fun c9 => ?_) (fun c9 => ?_)
    · have hB := if_n hB c9
      refine lv_iload hx hb dX11_goesBy_82 (lv_at hl 0 rfl) ?_
      refine lv_aload_n hx hb dX11_goesBy_84 rfl (lv_at hl 1 rfl) ?_
      refine lv_iload_n hx hb dX11_goesBy_85 rfl (lv_at hl 4 rfl) ?_
      refine lv_iload hx hb dX11_goesBy_86 (lv_at hl 6 rfl) ?_
      obtain ⟨q_, s10, hc, hB⟩ := bindI_inv hB
      refine q_goiF (va_runV (As := [.int x3, .int x5]) (rest := [.int r8]) C (cr_thingAt hc _) (cwV 2 hts gX11_goesBy_X11_thingAt rfl rfl rfl (by decide +kernel) ⟨Nat.le_of_ble_eq_true rfl, Nat.le_of_ble_eq_true rfl⟩) (q_preV hK hP (ci := 11) (q0 := 0) rfl rfl rfl (q_preF hN hK hP hD)) rfl rfl hl.1 rfl (lv_room (Nat.le_of_ble_eq_true rfl)) dX11_goesBy_88 ⟨Nat.le_of_ble_eq_true rfl, Nat.le_of_ble_eq_true rfl⟩) hD hS hA (fun r11 w1 H locs hw hP hD hS => ?_)
      obtain ⟨hq_, hw⟩ := hw; subst hw; subst hq_
      refine lv_icmp_eq (tgt := 111) hx hb dX11_goesBy_91 (by decide) (fun c12 => ?_) (fun c12 => ?_)
      · have hB := if_p hB c12
        refine lv_aload_n hx hb dX11_goesBy_111 rfl (lv_at hl 1 rfl) ?_
        refine q_get (v := .ref (a 44)) C inX11_goesBy_X11 hK hP 0 rfl rfl 44 (by decide) rfl LX11_goesBy_101 rfl dX11_goesBy_112 ?_
        refine lv_iconst (v := 5) hx hb dX11_goesBy_115 (by decide) ?_
        refine lv_iload hx hb dX11_goesBy_116 (lv_at hl 6 rfl) ?_
        refine lv_iadd hx hb dX11_goesBy_118 ?_
        refine lv_iload hx hb dX11_goesBy_119 (lv_at hl 0 rfl) ?_
        obtain ⟨g13, hB⟩ := guard_inv hB
        obtain ⟨s14, hs15, hB⟩ := letS_inv hB
        refine q_iast (f2 := (upd (s10.f 44) (Int32.toNatClampNeg (5 + x5)) r8)) (w2 := (mwS cB cI cJ cZ h a s14)) C hK hP hD hS 28 1 rfl rfl (vpb_in g13) dX11_goesBy_121 rfl (mwS_f44 hs15) (fun H locs hP hD hS => ?_)
        refine lv_iinc (v := (x5 + 1)) (lv' := [(5, .int (x5 + 1)), (6, .int r8), (0, .ref h), (1, .int x1), (2, .int x2), (3, .int x3), (4, .int x4)]) hx hb dX11_goesBy_122 hl (k := 6) rfl (rfl) (by decide) rfl (fun ls hl => ?_)
        refine lv_goto (tgt := 39) hx hb dX11_goesBy_125 (by decide) ?_
        exact hk39 _ _ _ _ _ _ hB p e s0 m below meth c A E H locs ls hP hD hS (lv_sub hl [2, 3, 4, 5, 6, 0] rfl)
      · have hB := if_n hB c12
        refine lv_aload_n hx hb dX11_goesBy_94 rfl (lv_at hl 1 rfl) ?_
        refine q_get (v := .ref (a 44)) C inX11_goesBy_X11 hK hP 0 rfl rfl 44 (by decide) rfl LX11_goesBy_101 rfl dX11_goesBy_95 ?_
        refine lv_iload hx hb dX11_goesBy_98 (lv_at hl 6 rfl) ?_
        refine lv_dup2_11 hx hb dX11_goesBy_100 rfl rfl ?_
        obtain ⟨g16, hB⟩ := guard_inv hB
        refine q_iald (x := (s10.f 44 (Int32.toNatClampNeg x5))) C hK hP 28 1 rfl rfl (vpb_in g16) dX11_goesBy_101 rfl ?_
        refine lv_iconst (v := 1) hx hb dX11_goesBy_102 (by decide) ?_
        refine lv_iload hx hb dX11_goesBy_103 (lv_at hl 0 rfl) ?_
        refine lv_ishl hx hb dX11_goesBy_105 ?_
        refine lv_ior hx hb dX11_goesBy_106 ?_
        obtain ⟨g17, hB⟩ := guard_inv hB
        obtain ⟨s18, hs19, hB⟩ := letS_inv hB
        refine q_iast (f2 := (upd (s10.f 44) (Int32.toNatClampNeg x5) ((s10.f 44 (Int32.toNatClampNeg x5)) ||| (1 <<< (r8 &&& 31))))) (w2 := (mwS cB cI cJ cZ h a s18)) C hK hP hD hS 28 1 rfl rfl (vpb_in g17) dX11_goesBy_107 rfl (mwS_f44 hs19) (fun H locs hP hD hS => ?_)
        refine lv_iload hx hb dX11_goesBy_108 (lv_at hl 6 rfl) ?_
        exact q_iret C hr hlocks hK hP hD hS (Nat.le_of_ble_eq_true rfl) (Nat.le_of_ble_eq_true rfl) dX11_goesBy_110 (by cases hB; exact ⟨rfl, rfl⟩)
    · have hB := if_p hB c9
      refine lv_aload_n hx hb dX11_goesBy_69 rfl (lv_at hl 1 rfl) ?_
      refine q_get (v := .ref (a 44)) C inX11_goesBy_X11 hK hP 0 rfl rfl 44 (by decide) rfl LX11_goesBy_101 rfl dX11_goesBy_70 ?_
      refine lv_bipush (v := 15) hx hb dX11_goesBy_73 (by decide) ?_
      refine lv_iload_n hx hb dX11_goesBy_75 rfl (lv_at hl 2 rfl) ?_
      refine lv_iadd hx hb dX11_goesBy_76 ?_
      refine lv_iconst (v := 1) hx hb dX11_goesBy_77 (by decide) ?_
      obtain ⟨g20, hB⟩ := guard_inv hB
      obtain ⟨s21, hs22, hB⟩ := letS_inv hB
      refine q_iast (f2 := (upd (s7.f 44) (Int32.toNatClampNeg (15 + x1)) 1)) (w2 := (mwS cB cI cJ cZ h a s21)) C hK hP hD hS 28 1 rfl rfl (vpb_in g20) dX11_goesBy_78 rfl (mwS_f44 hs22) (fun H locs hP hD hS => ?_)
      refine lv_iload hx hb dX11_goesBy_79 (lv_at hl 6 rfl) ?_
      exact q_iret C hr hlocks hK hP hD hS (Nat.le_of_ble_eq_true rfl) (Nat.le_of_ble_eq_true rfl) dX11_goesBy_81 (by cases hB; exact ⟨rfl, rfl⟩)
theorem br_goesBy_39L {l : Launch} {dC : Nat → ClassId} {dI : Nat → Nat → Nat} {cB cI cJ cZ cS : ClassId} {h : Nat} {a : Nat → Nat} {as : List Value} {r : Int32} {s' : RS} : ∀ (n : Nat) (s : RS) (x1 : Int32) (x2 : Int32) (x3 : Int32) (x4 : Int32) (x5 : Int32), r_goesBy_39L n s x1 x2 x3 x4 x5 = some (r, s') → BlkI l yX11_goesBy wsX11_goesBy ({ frames := 6, cells := 0, slots := 0, locals := 135 }) cX11_goesBy 7 (some .int) (dC, dI) (tysA cB cI cJ cZ cS) as 39 (mwS cB cI cJ cZ h a s) [(0, .ref h), (1, .int x1), (2, .int x2), (3, .int x3), (4, .int x4), (5, .int x5)] [] (fun x u => x = r ∧ u = (mwS cB cI cJ cZ h a s')) := by
  intro n
  induction n with
  | zero => intro s x1 x2 x3 x4 x5 hB; exact none_ne hB
  | succ n ih => intro s x1 x2 x3 x4 x5 hB; exact br_goesBy_39 ih _ _ _ _ _ _ hB
set_option maxHeartbeats 4000000 in
set_option maxRecDepth 100000 in
theorem br_goesBy {l : Launch} {dC : Nat → ClassId} {dI : Nat → Nat → Nat} {cB cI cJ cZ cS : ClassId} {h : Nat} {a : Nat → Nat} {as : List Value} {r : Int32} {s' : RS} (s : RS) (x1 : Int32) (x2 : Int32) (x3 : Int32) (hB : r_goesBy s x1 x2 x3 = some (r, s')) : BlkI l yX11_goesBy wsX11_goesBy ({ frames := 6, cells := 0, slots := 0, locals := 135 }) cX11_goesBy 7 (some .int) (dC, dI) (tysA cB cI cJ cZ cS) as 0 (mwS cB cI cJ cZ h a s) [(0, .ref h), (1, .int x1), (2, .int x2), (3, .int x3)] [] (fun x u => x = r ∧ u = (mwS cB cI cJ cZ h a s')) := by
  intro p e s0 m below meth c A E H locs ls hP hD hS hl
  obtain ⟨C, hr, hlocks, hA, hK, hN⟩ := id E
  obtain ⟨hx, hb, hml, hown, hts⟩ := id C
  unfold r_goesBy at hB
  refine lv_aload_n hx hb dX11_goesBy_0 rfl (lv_at hl 0 rfl) ?_
  refine lv_iload_n hx hb dX11_goesBy_1 rfl (lv_at hl 1 rfl) ?_
  refine lv_iload_n hx hb dX11_goesBy_2 rfl (lv_at hl 2 rfl) ?_
  obtain ⟨q_, s1, hc, hB⟩ := bindI_inv hB
  refine q_goiF (va_runV (As := [.int x1, .int x2]) (rest := []) C (cr_bearsBy hc _) (cwV 2 hts gX11_goesBy_X11_bearsBy rfl rfl rfl (by decide +kernel) ⟨Nat.le_of_ble_eq_true rfl, Nat.le_of_ble_eq_true rfl⟩) (q_preV hK hP (ci := 11) (q0 := 0) rfl rfl rfl (q_preF hN hK hP hD)) rfl rfl hl.1 rfl (lv_room (Nat.le_of_ble_eq_true rfl)) dX11_goesBy_3 ⟨Nat.le_of_ble_eq_true rfl, Nat.le_of_ble_eq_true rfl⟩) hD hS hA (fun r2 w1 H locs hw hP hD hS => ?_)
  obtain ⟨hq_, hw⟩ := hw; subst hw; subst hq_
  refine lv_istore (lv' := [(4, .int r2), (0, .ref h), (1, .int x1), (2, .int x2), (3, .int x3)]) hx hb dX11_goesBy_6 hl (by decide) rfl (fun ls hl => ?_)
  refine lv_aload_n hx hb dX11_goesBy_8 rfl (lv_at hl 1 rfl) ?_
  refine q_get (v := .ref (a 44)) C inX11_goesBy_X11 hK hP 0 rfl rfl 44 (by decide) rfl LX11_goesBy_101 rfl dX11_goesBy_9 ?_
  refine lv_bipush (v := 28) hx hb dX11_goesBy_12 (by decide) ?_
  refine lv_dup2_11 hx hb dX11_goesBy_14 rfl rfl ?_
  refine q_iald (x := (s1.f 44 28)) C hK hP 28 1 rfl rfl (vp_lit (by decide +kernel)) dX11_goesBy_15 rfl ?_
  refine lv_aload_n hx hb dX11_goesBy_16 rfl (lv_at hl 1 rfl) ?_
  refine lv_iload_n hx hb dX11_goesBy_17 rfl (lv_at hl 2 rfl) ?_
  obtain ⟨q_, s3, hc, hB⟩ := bindI_inv hB
  refine q_goiF (va_runV (As := [.int x1]) (rest := [.int (s1.f 44 28), .int 28, .ref (a 44)]) C (cr_faresOf hc _) (cwV 1 hts gX11_goesBy_X11_faresOf rfl rfl rfl (by decide +kernel) ⟨Nat.le_of_ble_eq_true rfl, Nat.le_of_ble_eq_true rfl⟩) (q_preV hK hP (ci := 11) (q0 := 0) rfl rfl rfl (q_preF hN hK hP hD)) rfl rfl hl.1 rfl (lv_room (Nat.le_of_ble_eq_true rfl)) dX11_goesBy_18 ⟨Nat.le_of_ble_eq_true rfl, Nat.le_of_ble_eq_true rfl⟩) hD hS hA (fun r4 w1 H locs hw hP hD hS => ?_)
  obtain ⟨hq_, hw⟩ := hw; subst hw; subst hq_
  refine lv_iadd hx hb dX11_goesBy_21 ?_
  obtain ⟨s5, hs6, hB⟩ := letS_inv hB
  refine q_iast (f2 := (upd (s3.f 44) 28 ((s1.f 44 28) + r4))) (w2 := (mwS cB cI cJ cZ h a s5)) C hK hP hD hS 28 1 rfl rfl (vp_lit (by decide +kernel)) dX11_goesBy_22 rfl (mwS_f44 hs6) (fun H locs hP hD hS => ?_)
  refine lv_aload_n hx hb dX11_goesBy_23 rfl (lv_at hl 1 rfl) ?_
  refine q_get (v := .ref (a 44)) C inX11_goesBy_X11 hK hP 0 rfl rfl 44 (by decide) rfl LX11_goesBy_101 rfl dX11_goesBy_24 ?_
  refine lv_bipush (v := 21) hx hb dX11_goesBy_27 (by decide) ?_
  refine lv_iload_n hx hb dX11_goesBy_29 rfl (lv_at hl 2 rfl) ?_
  refine lv_iadd hx hb dX11_goesBy_30 ?_
  refine lv_dup2_11 hx hb dX11_goesBy_31 rfl rfl ?_
  obtain ⟨g7, hB⟩ := guard_inv hB
  refine q_iald (x := (s5.f 44 (Int32.toNatClampNeg (21 + x1)))) C hK hP 28 1 rfl rfl (vpb_in g7) dX11_goesBy_32 rfl ?_
  refine lv_iconst (v := 1) hx hb dX11_goesBy_33 (by decide) ?_
  refine lv_iadd hx hb dX11_goesBy_34 ?_
  obtain ⟨g8, hB⟩ := guard_inv hB
  obtain ⟨s9, hs10, hB⟩ := letS_inv hB
  refine q_iast (f2 := (upd (s5.f 44) (Int32.toNatClampNeg (21 + x1)) ((s5.f 44 (Int32.toNatClampNeg (21 + x1))) + 1))) (w2 := (mwS cB cI cJ cZ h a s9)) C hK hP hD hS 28 1 rfl rfl (vpb_in g8) dX11_goesBy_35 rfl (mwS_f44 hs10) (fun H locs hP hD hS => ?_)
  refine lv_iconst (v := 0) hx hb dX11_goesBy_36 (by decide) ?_
  refine lv_istore (lv' := [(5, .int 0), (4, .int r2), (0, .ref h), (1, .int x1), (2, .int x2), (3, .int x3)]) hx hb dX11_goesBy_37 hl (by decide) rfl (fun ls hl => ?_)
  exact br_goesBy_39L fu _ _ _ _ _ _ hB p e s0 m below meth c A E H locs ls hP hD hS (lv_sub hl [2, 3, 4, 5, 1, 0] rfl)
theorem cr_goesBy {l : Launch} {dC : Nat → ClassId} {dI : Nat → Nat → Nat} {cB cI cJ cZ cS : ClassId} {h : Nat} {a : Nat → Nat} {r : Int32} {s' : RS} {s : RS} {x1 : Int32} {x2 : Int32} {x3 : Int32} (hB : r_goesBy s x1 x2 x3 = some (r, s')) : CI l yX11_goesBy wsX11_goesBy ({ frames := 6, cells := 0, slots := 0, locals := 135 }) (dC, dI) (tysA cB cI cJ cZ cS) (mwS cB cI cJ cZ h a s) [.ref h, .int x1, .int x2, .int x3] (fun x u => x = r ∧ u = (mwS cB cI cJ cZ h a s')) :=
  CI_of (cc := cX11_goesBy) (maxL := 7) (ret := (some .int)) (by decide) rfl (Nat.le_of_ble_eq_true rfl) (br_goesBy _ _ _ _ hB)
theorem LX11_yearGoes_101 : Cond.fieldLink RX11 101 "GuessFerryModel" "row" "[I" ∈ wsX11_yearGoes := by decide +kernel
theorem LX11_yearGoes_107 : Cond.fieldLink RX11 107 "GuessFerryModel" "shiftsNow" "[Z" ∈ wsX11_yearGoes := by decide +kernel
theorem LX11_yearGoes_215 : Cond.fieldLink RX11 215 "GuessFerryModel" "live" "I" ∈ wsX11_yearGoes := by decide +kernel
theorem LX11_yearGoes_40 : Cond.fieldLink RX11 40 "GuessFerryModel" "waves" "[I" ∈ wsX11_yearGoes := by decide +kernel
theorem LX11_yearGoes_K342 : Cond.constant RX11 342 1000000 ∈ wsX11_yearGoes := by decide +kernel
theorem inX11_yearGoes_X11 : ∀ w ∈ u_ws RX11 TX11 58, w ∈ wsX11_yearGoes := by decide +kernel
set_option maxHeartbeats 4000000 in
set_option maxRecDepth 100000 in
theorem br_yearGoes_119 {l : Launch} {dC : Nat → ClassId} {dI : Nat → Nat → Nat} {cB cI cJ cZ cS : ClassId} {h : Nat} {a : Nat → Nat} {as : List Value} {s' : RS} {k64 : RS → Int32 → Option RS} (hk64 : ∀ (s : RS) (x1 : Int32), k64 s x1 = some s' → BlkV l yX11_yearGoes wsX11_yearGoes ({ frames := 4, cells := 0, slots := 0, locals := 87 }) cX11_yearGoes 2 none (dC, dI) (tysA cB cI cJ cZ cS) as 64 (mwS cB cI cJ cZ h a s) [(0, .ref h), (1, .int x1)] [] (fun u => u = (mwS cB cI cJ cZ h a s'))) (s : RS) (x1 : Int32) (hB : r_yearGoes_119 k64 s x1 = some s') : BlkV l yX11_yearGoes wsX11_yearGoes ({ frames := 4, cells := 0, slots := 0, locals := 87 }) cX11_yearGoes 2 none (dC, dI) (tysA cB cI cJ cZ cS) as 119 (mwS cB cI cJ cZ h a s) [(0, .ref h), (1, .int x1)] [] (fun u => u = (mwS cB cI cJ cZ h a s')) := by
  intro p e s0 m below meth c A E H locs ls hP hD hS hl
  obtain ⟨C, hr, hlocks, hA, hK, hN⟩ := id E
  obtain ⟨hx, hb, hml, hown, hts⟩ := id C
  unfold r_yearGoes_119 at hB
  refine lv_iinc (v := (x1 + 1)) (lv' := [(1, .int (x1 + 1)), (0, .ref h)]) hx hb dX11_yearGoes_119 hl (k := 1) rfl (rfl) (by decide) rfl (fun ls hl => ?_)
  refine lv_goto (tgt := 64) hx hb dX11_yearGoes_122 (by decide) ?_
  exact hk64 _ _ hB p e s0 m below meth c A E H locs ls hP hD hS (lv_sub hl [1, 0] rfl)
set_option maxHeartbeats 4000000 in
set_option maxRecDepth 100000 in
theorem br_yearGoes_64 {l : Launch} {dC : Nat → ClassId} {dI : Nat → Nat → Nat} {cB cI cJ cZ cS : ClassId} {h : Nat} {a : Nat → Nat} {as : List Value} {s' : RS} {k64 : RS → Int32 → Option RS} (hk64 : ∀ (s : RS) (x1 : Int32), k64 s x1 = some s' → BlkV l yX11_yearGoes wsX11_yearGoes ({ frames := 4, cells := 0, slots := 0, locals := 87 }) cX11_yearGoes 2 none (dC, dI) (tysA cB cI cJ cZ cS) as 64 (mwS cB cI cJ cZ h a s) [(0, .ref h), (1, .int x1)] [] (fun u => u = (mwS cB cI cJ cZ h a s'))) (s : RS) (x1 : Int32) (hB : r_yearGoes_64 k64 s x1 = some s') : BlkV l yX11_yearGoes wsX11_yearGoes ({ frames := 4, cells := 0, slots := 0, locals := 87 }) cX11_yearGoes 2 none (dC, dI) (tysA cB cI cJ cZ cS) as 64 (mwS cB cI cJ cZ h a s) [(0, .ref h), (1, .int x1)] [] (fun u => u = (mwS cB cI cJ cZ h a s')) := by
  intro p e s0 m below meth c A E H locs ls hP hD hS hl
  obtain ⟨C, hr, hlocks, hA, hK, hN⟩ := id E
  obtain ⟨hx, hb, hml, hown, hts⟩ := id C
  unfold r_yearGoes_64 at hB
  refine lv_iload_n hx hb dX11_yearGoes_64 rfl (lv_at hl 1 rfl) ?_
  refine lv_aload_n hx hb dX11_yearGoes_65 rfl (lv_at hl 0 rfl) ?_
  refine q_get (v := .ref (a 20)) C inX11_yearGoes_X11 hK hP 0 rfl rfl 20 (by decide) rfl LX11_yearGoes_40 rfl dX11_yearGoes_66 ?_
  refine lv_aload_n hx hb dX11_yearGoes_69 rfl (lv_at hl 0 rfl) ?_
  refine q_get (v := .int (s.v 18)) C inX11_yearGoes_X11 hK hP 0 rfl rfl 18 (by decide) rfl LX11_yearGoes_215 rfl dX11_yearGoes_70 ?_
  obtain ⟨g1, hB⟩ := guard_inv hB
  refine q_iald (x := (s.f 20 (Int32.toNatClampNeg (s.v 18)))) C hK hP 8 1 rfl rfl (vpb_in g1) dX11_yearGoes_73 rfl ?_
  refine lv_icmp_ge (tgt := 125) hx hb dX11_yearGoes_74 (by decide) (fun c2 => ?_) (fun c2 => ?_)
  · have hB := if_p hB c2
    refine lv_aload_n hx hb dX11_yearGoes_125 rfl (lv_at hl 0 rfl) ?_
    refine q_get (v := .ref (a 44)) C inX11_yearGoes_X11 hK hP 0 rfl rfl 44 (by decide) rfl LX11_yearGoes_101 rfl dX11_yearGoes_126 ?_
    refine lv_bipush (v := 27) hx hb dX11_yearGoes_129 (by decide) ?_
    refine lv_dup2_11 hx hb dX11_yearGoes_131 rfl rfl ?_
    refine q_iald (x := (s.f 44 27)) C hK hP 28 1 rfl rfl (vp_lit (by decide +kernel)) dX11_yearGoes_132 rfl ?_
    refine lv_iconst (v := 1) hx hb dX11_yearGoes_133 (by decide) ?_
    refine lv_iadd hx hb dX11_yearGoes_134 ?_
    obtain ⟨s3, hs4, hB⟩ := letS_inv hB
    refine q_iast (f2 := (upd (s.f 44) 27 ((s.f 44 27) + 1))) (w2 := (mwS cB cI cJ cZ h a s3)) C hK hP hD hS 28 1 rfl rfl (vp_lit (by decide +kernel)) dX11_yearGoes_135 rfl (mwS_f44 hs4) (fun H locs hP hD hS => ?_)
    exact q_vret C hr hlocks hK hP hD hS (Nat.le_of_ble_eq_true rfl) (Nat.le_of_ble_eq_true rfl) dX11_yearGoes_136 (by cases hB; rfl)
  · have hB := if_n hB c2
    refine lv_aload_n hx hb dX11_yearGoes_77 rfl (lv_at hl 0 rfl) ?_
    refine q_get (v := .ref (a 47)) C inX11_yearGoes_X11 hK hP 0 rfl rfl 47 (by decide) rfl LX11_yearGoes_107 rfl dX11_yearGoes_78 ?_
    refine lv_iload_n hx hb dX11_yearGoes_81 rfl (lv_at hl 1 rfl) ?_
    obtain ⟨g5, hB⟩ := guard_inv hB
    refine q_zald (x := (s.f 47 (Int32.toNatClampNeg x1))) C hK hP 30 3 rfl rfl (vpb_in g5) dX11_yearGoes_82 rfl ?_
    refine lv_if_ne (tgt := 89) hx hb dX11_yearGoes_83 (by decide) (fun c6 => ?_) (fun c6 => ?_)
    · have hB := if_n hB c6
      refine lv_aload_n hx hb dX11_yearGoes_89 rfl (lv_at hl 0 rfl) ?_
      refine q_get (v := .ref (a 44)) C inX11_yearGoes_X11 hK hP 0 rfl rfl 44 (by decide) rfl LX11_yearGoes_101 rfl dX11_yearGoes_90 ?_
      refine lv_iload_n hx hb dX11_yearGoes_93 rfl (lv_at hl 1 rfl) ?_
      refine lv_iconst (v := 0) hx hb dX11_yearGoes_94 (by decide) ?_
      obtain ⟨g7, hB⟩ := guard_inv hB
      obtain ⟨s8, hs9, hB⟩ := letS_inv hB
      refine q_iast (f2 := (upd (s.f 44) (Int32.toNatClampNeg x1) 0)) (w2 := (mwS cB cI cJ cZ h a s8)) C hK hP hD hS 28 1 rfl rfl (vpb_in g7) dX11_yearGoes_95 rfl (mwS_f44 hs9) (fun H locs hP hD hS => ?_)
      refine lv_aload_n hx hb dX11_yearGoes_96 rfl (lv_at hl 0 rfl) ?_
      refine q_get (v := .ref (a 44)) C inX11_yearGoes_X11 hK hP 0 rfl rfl 44 (by decide) rfl LX11_yearGoes_101 rfl dX11_yearGoes_97 ?_
      refine lv_iconst (v := 5) hx hb dX11_yearGoes_100 (by decide) ?_
      refine lv_iload_n hx hb dX11_yearGoes_101 rfl (lv_at hl 1 rfl) ?_
      refine lv_iadd hx hb dX11_yearGoes_102 ?_
      refine lv_bipush (v := (-2)) hx hb dX11_yearGoes_103 (by decide) ?_
      obtain ⟨g10, hB⟩ := guard_inv hB
      obtain ⟨s11, hs12, hB⟩ := letS_inv hB
      refine q_iast (f2 := (upd (s8.f 44) (Int32.toNatClampNeg (5 + x1)) (-2))) (w2 := (mwS cB cI cJ cZ h a s11)) C hK hP hD hS 28 1 rfl rfl (vpb_in g10) dX11_yearGoes_105 rfl (mwS_f44 hs12) (fun H locs hP hD hS => ?_)
      refine lv_aload_n hx hb dX11_yearGoes_106 rfl (lv_at hl 0 rfl) ?_
      refine q_get (v := .ref (a 44)) C inX11_yearGoes_X11 hK hP 0 rfl rfl 44 (by decide) rfl LX11_yearGoes_101 rfl dX11_yearGoes_107 ?_
      refine lv_bipush (v := 10) hx hb dX11_yearGoes_110 (by decide) ?_
      refine lv_iload_n hx hb dX11_yearGoes_112 rfl (lv_at hl 1 rfl) ?_
      refine lv_iadd hx hb dX11_yearGoes_113 ?_
      refine lv_dup2_11 hx hb dX11_yearGoes_114 rfl rfl ?_
      obtain ⟨g13, hB⟩ := guard_inv hB
      refine q_iald (x := (s11.f 44 (Int32.toNatClampNeg (10 + x1)))) C hK hP 28 1 rfl rfl (vpb_in g13) dX11_yearGoes_115 rfl ?_
      refine lv_iconst (v := 1) hx hb dX11_yearGoes_116 (by decide) ?_
      refine lv_iadd hx hb dX11_yearGoes_117 ?_
      obtain ⟨g14, hB⟩ := guard_inv hB
      obtain ⟨s15, hs16, hB⟩ := letS_inv hB
      refine q_iast (f2 := (upd (s11.f 44) (Int32.toNatClampNeg (10 + x1)) ((s11.f 44 (Int32.toNatClampNeg (10 + x1))) + 1))) (w2 := (mwS cB cI cJ cZ h a s15)) C hK hP hD hS 28 1 rfl rfl (vpb_in g14) dX11_yearGoes_118 rfl (mwS_f44 hs16) (fun H locs hP hD hS => ?_)
      exact br_yearGoes_119 (hk64) _ _ hB p e s0 m below meth c A E H locs ls hP hD hS (lv_sub hl [0, 1] rfl)
    · have hB := if_p hB c6
      refine lv_goto (tgt := 119) hx hb dX11_yearGoes_86 (by decide) ?_
      exact br_yearGoes_119 (hk64) _ _ hB p e s0 m below meth c A E H locs ls hP hD hS (lv_sub hl [0, 1] rfl)
theorem br_yearGoes_64L {l : Launch} {dC : Nat → ClassId} {dI : Nat → Nat → Nat} {cB cI cJ cZ cS : ClassId} {h : Nat} {a : Nat → Nat} {as : List Value} {s' : RS} : ∀ (n : Nat) (s : RS) (x1 : Int32), r_yearGoes_64L n s x1 = some s' → BlkV l yX11_yearGoes wsX11_yearGoes ({ frames := 4, cells := 0, slots := 0, locals := 87 }) cX11_yearGoes 2 none (dC, dI) (tysA cB cI cJ cZ cS) as 64 (mwS cB cI cJ cZ h a s) [(0, .ref h), (1, .int x1)] [] (fun u => u = (mwS cB cI cJ cZ h a s')) := by
  intro n
  induction n with
  | zero => intro s x1 hB; exact none_ne hB
  | succ n ih => intro s x1 hB; exact br_yearGoes_64 ih _ _ hB
set_option maxHeartbeats 4000000 in
set_option maxRecDepth 100000 in
theorem br_yearGoes_55 {l : Launch} {dC : Nat → ClassId} {dI : Nat → Nat → Nat} {cB cI cJ cZ cS : ClassId} {h : Nat} {a : Nat → Nat} {as : List Value} {s' : RS} {k2 : RS → Int32 → Option RS} (hk2 : ∀ (s : RS) (x1 : Int32), k2 s x1 = some s' → BlkV l yX11_yearGoes wsX11_yearGoes ({ frames := 4, cells := 0, slots := 0, locals := 87 }) cX11_yearGoes 2 none (dC, dI) (tysA cB cI cJ cZ cS) as 2 (mwS cB cI cJ cZ h a s) [(0, .ref h), (1, .int x1)] [] (fun u => u = (mwS cB cI cJ cZ h a s'))) (s : RS) (x1 : Int32) (t0 : Int32) (t1 : Int32) (hB : r_yearGoes_55 k2 s x1 t0 t1 = some s') : BlkV l yX11_yearGoes wsX11_yearGoes ({ frames := 4, cells := 0, slots := 0, locals := 87 }) cX11_yearGoes 2 none (dC, dI) (tysA cB cI cJ cZ cS) as 55 (mwS cB cI cJ cZ h a s) [(0, .ref h), (1, .int x1)] [.int t0, .int t1, .ref (a 47)] (fun u => u = (mwS cB cI cJ cZ h a s')) := by
  intro p e s0 m below meth c A E H locs ls hP hD hS hl
  obtain ⟨C, hr, hlocks, hA, hK, hN⟩ := id E
  obtain ⟨hx, hb, hml, hown, hts⟩ := id C
  unfold r_yearGoes_55 at hB
  obtain ⟨g1, hB⟩ := guard_inv hB
  obtain ⟨s2, hs3, hB⟩ := letS_inv hB
  refine q_zast (f2 := (upd (s.f 47) (Int32.toNatClampNeg t1) (vp_nar .boolean t0))) (w2 := (mwS cB cI cJ cZ h a s2)) C hK hP hD hS 30 3 rfl rfl (vpb_in g1) dX11_yearGoes_55 rfl (mwS_f47 hs3) (fun H locs hP hD hS => ?_)
  refine lv_iinc (v := (x1 + 1)) (lv' := [(1, .int (x1 + 1)), (0, .ref h)]) hx hb dX11_yearGoes_56 hl (k := 1) rfl (rfl) (by decide) rfl (fun ls hl => ?_)
  refine lv_goto (tgt := 2) hx hb dX11_yearGoes_59 (by decide) ?_
  exact hk2 _ _ hB p e s0 m below meth c A E H locs ls hP hD hS (lv_sub hl [1, 0] rfl)
set_option maxHeartbeats 4000000 in
set_option maxRecDepth 100000 in
theorem br_yearGoes_2 {l : Launch} {dC : Nat → ClassId} {dI : Nat → Nat → Nat} {cB cI cJ cZ cS : ClassId} {h : Nat} {a : Nat → Nat} {as : List Value} {s' : RS} {k2 : RS → Int32 → Option RS} (hk2 : ∀ (s : RS) (x1 : Int32), k2 s x1 = some s' → BlkV l yX11_yearGoes wsX11_yearGoes ({ frames := 4, cells := 0, slots := 0, locals := 87 }) cX11_yearGoes 2 none (dC, dI) (tysA cB cI cJ cZ cS) as 2 (mwS cB cI cJ cZ h a s) [(0, .ref h), (1, .int x1)] [] (fun u => u = (mwS cB cI cJ cZ h a s'))) (s : RS) (x1 : Int32) (hB : r_yearGoes_2 k2 s x1 = some s') : BlkV l yX11_yearGoes wsX11_yearGoes ({ frames := 4, cells := 0, slots := 0, locals := 87 }) cX11_yearGoes 2 none (dC, dI) (tysA cB cI cJ cZ cS) as 2 (mwS cB cI cJ cZ h a s) [(0, .ref h), (1, .int x1)] [] (fun u => u = (mwS cB cI cJ cZ h a s')) := by
  intro p e s0 m below meth c A E H locs ls hP hD hS hl
  obtain ⟨C, hr, hlocks, hA, hK, hN⟩ := id E
  obtain ⟨hx, hb, hml, hown, hts⟩ := id C
  unfold r_yearGoes_2 at hB
  refine lv_iload_n hx hb dX11_yearGoes_2 rfl (lv_at hl 1 rfl) ?_
  refine lv_aload_n hx hb dX11_yearGoes_3 rfl (lv_at hl 0 rfl) ?_
  refine q_get (v := .ref (a 20)) C inX11_yearGoes_X11 hK hP 0 rfl rfl 20 (by decide) rfl LX11_yearGoes_40 rfl dX11_yearGoes_4 ?_
  refine lv_aload_n hx hb dX11_yearGoes_7 rfl (lv_at hl 0 rfl) ?_
  refine q_get (v := .int (s.v 18)) C inX11_yearGoes_X11 hK hP 0 rfl rfl 18 (by decide) rfl LX11_yearGoes_215 rfl dX11_yearGoes_8 ?_
  obtain ⟨g1, hB⟩ := guard_inv hB
  refine q_iald (x := (s.f 20 (Int32.toNatClampNeg (s.v 18)))) C hK hP 8 1 rfl rfl (vpb_in g1) dX11_yearGoes_11 rfl ?_
  refine lv_icmp_ge (tgt := 62) hx hb dX11_yearGoes_12 (by decide) (fun c2 => ?_) (fun c2 => ?_)
  · have hB := if_p hB c2
    refine lv_iconst (v := 0) hx hb dX11_yearGoes_62 (by decide) ?_
    refine lv_istore_n (lv' := [(1, .int 0), (0, .ref h)]) hx hb dX11_yearGoes_63 rfl hl (by decide) rfl (fun ls hl => ?_)
    exact br_yearGoes_64L fu _ _ hB p e s0 m below meth c A E H locs ls hP hD hS (lv_sub hl [1, 0] rfl)
  · have hB := if_n hB c2
    refine lv_aload_n hx hb dX11_yearGoes_15 rfl (lv_at hl 0 rfl) ?_
    refine q_get (v := .ref (a 47)) C inX11_yearGoes_X11 hK hP 0 rfl rfl 47 (by decide) rfl LX11_yearGoes_107 rfl dX11_yearGoes_16 ?_
    refine lv_iload_n hx hb dX11_yearGoes_19 rfl (lv_at hl 1 rfl) ?_
    refine lv_aload_n hx hb dX11_yearGoes_20 rfl (lv_at hl 0 rfl) ?_
    refine lv_bipush (v := 8) hx hb dX11_yearGoes_21 (by decide) ?_
    refine lv_aload_n hx hb dX11_yearGoes_23 rfl (lv_at hl 0 rfl) ?_
    refine q_get (v := .ref (a 44)) C inX11_yearGoes_X11 hK hP 0 rfl rfl 44 (by decide) rfl LX11_yearGoes_101 rfl dX11_yearGoes_24 ?_
    refine lv_bipush (v := 27) hx hb dX11_yearGoes_27 (by decide) ?_
    refine q_iald (x := (s.f 44 27)) C hK hP 28 1 rfl rfl (vp_lit (by decide +kernel)) dX11_yearGoes_29 rfl ?_
    refine lv_imul hx hb dX11_yearGoes_30 ?_
    refine lv_ldcw (v := 1000000) hx hb hown (hts _ LX11_yearGoes_K342) dX11_yearGoes_31 ?_
    refine lv_iadd hx hb dX11_yearGoes_34 ?_
    refine lv_iload_n hx hb dX11_yearGoes_35 rfl (lv_at hl 1 rfl) ?_
    refine lv_iadd hx hb dX11_yearGoes_36 ?_
    refine lv_bipush (v := 100) hx hb dX11_yearGoes_37 (by decide) ?_
    obtain ⟨q_, s3, hc, hB⟩ := bindI_inv hB
    refine q_goiF (va_runV (As := [.int (((8 * (s.f 44 27)) + 1000000) + x1), .int 100]) (rest := [.int x1, .ref (a 47)]) C (cr_lotOf hc _) (cwV 2 hts gX11_yearGoes_X11_lotOf rfl rfl rfl (by decide +kernel) ⟨Nat.le_of_ble_eq_true rfl, Nat.le_of_ble_eq_true rfl⟩) (q_preV hK hP (ci := 11) (q0 := 0) rfl rfl rfl (q_preF hN hK hP hD)) rfl rfl hl.1 rfl (lv_room (Nat.le_of_ble_eq_true rfl)) dX11_yearGoes_39 ⟨Nat.le_of_ble_eq_true rfl, Nat.le_of_ble_eq_true rfl⟩) hD hS hA (fun r4 w1 H locs hw hP hD hS => ?_)
    obtain ⟨hq_, hw⟩ := hw; subst hw; subst hq_
    refine lv_aload_n hx hb dX11_yearGoes_42 rfl (lv_at hl 0 rfl) ?_
    refine lv_iload_n hx hb dX11_yearGoes_43 rfl (lv_at hl 1 rfl) ?_
    obtain ⟨q_, s5, hc, hB⟩ := bindI_inv hB
    refine q_goiF (va_runV (As := [.int x1]) (rest := [.int r4, .int x1, .ref (a 47)]) C (cr_shiftsOf hc _) (cwV 1 hts gX11_yearGoes_X11_shiftsOf rfl rfl rfl (by decide +kernel) ⟨Nat.le_of_ble_eq_true rfl, Nat.le_of_ble_eq_true rfl⟩) (q_preV hK hP (ci := 11) (q0 := 0) rfl rfl rfl (q_preF hN hK hP hD)) rfl rfl hl.1 rfl (lv_room (Nat.le_of_ble_eq_true rfl)) dX11_yearGoes_44 ⟨Nat.le_of_ble_eq_true rfl, Nat.le_of_ble_eq_true rfl⟩) hD hS hA (fun r6 w1 H locs hw hP hD hS => ?_)
    obtain ⟨hq_, hw⟩ := hw; subst hw; subst hq_
    refine lv_icmp_ge (tgt := 54) hx hb dX11_yearGoes_47 (by decide) (fun c7 => ?_) (fun c7 => ?_)
    · have hB := if_p hB c7
      refine lv_iconst (v := 0) hx hb dX11_yearGoes_54 (by decide) ?_
      exact br_yearGoes_55 (hk2) _ _ _ _ hB p e s0 m below meth c A E H locs ls hP hD hS (lv_sub hl [0, 1] rfl)
    · have hB := if_n hB c7
      refine lv_iconst (v := 1) hx hb dX11_yearGoes_50 (by decide) ?_
      refine lv_goto (tgt := 55) hx hb dX11_yearGoes_51 (by decide) ?_
      exact br_yearGoes_55 (hk2) _ _ _ _ hB p e s0 m below meth c A E H locs ls hP hD hS (lv_sub hl [0, 1] rfl)
theorem br_yearGoes_2L {l : Launch} {dC : Nat → ClassId} {dI : Nat → Nat → Nat} {cB cI cJ cZ cS : ClassId} {h : Nat} {a : Nat → Nat} {as : List Value} {s' : RS} : ∀ (n : Nat) (s : RS) (x1 : Int32), r_yearGoes_2L n s x1 = some s' → BlkV l yX11_yearGoes wsX11_yearGoes ({ frames := 4, cells := 0, slots := 0, locals := 87 }) cX11_yearGoes 2 none (dC, dI) (tysA cB cI cJ cZ cS) as 2 (mwS cB cI cJ cZ h a s) [(0, .ref h), (1, .int x1)] [] (fun u => u = (mwS cB cI cJ cZ h a s')) := by
  intro n
  induction n with
  | zero => intro s x1 hB; exact none_ne hB
  | succ n ih => intro s x1 hB; exact br_yearGoes_2 ih _ _ hB
set_option maxHeartbeats 4000000 in
set_option maxRecDepth 100000 in
theorem br_yearGoes {l : Launch} {dC : Nat → ClassId} {dI : Nat → Nat → Nat} {cB cI cJ cZ cS : ClassId} {h : Nat} {a : Nat → Nat} {as : List Value} {s' : RS} (s : RS) (hB : r_yearGoes s = some s') : BlkV l yX11_yearGoes wsX11_yearGoes ({ frames := 4, cells := 0, slots := 0, locals := 87 }) cX11_yearGoes 2 none (dC, dI) (tysA cB cI cJ cZ cS) as 0 (mwS cB cI cJ cZ h a s) [(0, .ref h)] [] (fun u => u = (mwS cB cI cJ cZ h a s')) := by
  intro p e s0 m below meth c A E H locs ls hP hD hS hl
  obtain ⟨C, hr, hlocks, hA, hK, hN⟩ := id E
  obtain ⟨hx, hb, hml, hown, hts⟩ := id C
  unfold r_yearGoes at hB
  refine lv_iconst (v := 0) hx hb dX11_yearGoes_0 (by decide) ?_
  refine lv_istore_n (lv' := [(1, .int 0), (0, .ref h)]) hx hb dX11_yearGoes_1 rfl hl (by decide) rfl (fun ls hl => ?_)
  exact br_yearGoes_2L fu _ _ hB p e s0 m below meth c A E H locs ls hP hD hS (lv_sub hl [1, 0] rfl)
theorem cr_yearGoes {l : Launch} {dC : Nat → ClassId} {dI : Nat → Nat → Nat} {cB cI cJ cZ cS : ClassId} {h : Nat} {a : Nat → Nat} {s' : RS} {s : RS} (hB : r_yearGoes s = some s') : CV l yX11_yearGoes wsX11_yearGoes ({ frames := 4, cells := 0, slots := 0, locals := 87 }) (dC, dI) (tysA cB cI cJ cZ cS) (mwS cB cI cJ cZ h a s) [.ref h] (fun u => u = (mwS cB cI cJ cZ h a s')) :=
  CV_of (cc := cX11_yearGoes) (maxL := 2) (ret := none) (by decide) rfl (Nat.le_of_ble_eq_true rfl) (br_yearGoes _ hB)
set_option maxHeartbeats 4000000 in
set_option maxRecDepth 100000 in
theorem br_yearsGo_2 {l : Launch} {dC : Nat → ClassId} {dI : Nat → Nat → Nat} {cB cI cJ cZ cS : ClassId} {h : Nat} {a : Nat → Nat} {as : List Value} {s' : RS} {k2 : RS → Int32 → Int32 → Option RS} (hk2 : ∀ (s : RS) (x1 : Int32) (x2 : Int32), k2 s x1 x2 = some s' → BlkV l yX11_yearsGo wsX11_yearsGo ({ frames := 5, cells := 0, slots := 0, locals := 108 }) cX11_yearsGo 3 none (dC, dI) (tysA cB cI cJ cZ cS) as 2 (mwS cB cI cJ cZ h a s) [(0, .ref h), (1, .int x1), (2, .int x2)] [] (fun u => u = (mwS cB cI cJ cZ h a s'))) (s : RS) (x1 : Int32) (x2 : Int32) (hB : r_yearsGo_2 k2 s x1 x2 = some s') : BlkV l yX11_yearsGo wsX11_yearsGo ({ frames := 5, cells := 0, slots := 0, locals := 108 }) cX11_yearsGo 3 none (dC, dI) (tysA cB cI cJ cZ cS) as 2 (mwS cB cI cJ cZ h a s) [(0, .ref h), (1, .int x1), (2, .int x2)] [] (fun u => u = (mwS cB cI cJ cZ h a s')) := by
  intro p e s0 m below meth c A E H locs ls hP hD hS hl
  obtain ⟨C, hr, hlocks, hA, hK, hN⟩ := id E
  obtain ⟨hx, hb, hml, hown, hts⟩ := id C
  unfold r_yearsGo_2 at hB
  refine lv_iload_n hx hb dX11_yearsGo_2 rfl (lv_at hl 2 rfl) ?_
  refine lv_iload_n hx hb dX11_yearsGo_3 rfl (lv_at hl 1 rfl) ?_
  refine lv_icmp_ge (tgt := 17) hx hb dX11_yearsGo_4 (by decide) (fun c1 => ?_) (fun c1 => ?_)
  · have hB := if_p hB c1
    exact q_vret C hr hlocks hK hP hD hS (Nat.le_of_ble_eq_true rfl) (Nat.le_of_ble_eq_true rfl) dX11_yearsGo_17 (by cases hB; rfl)
  · have hB := if_n hB c1
    refine lv_aload_n hx hb dX11_yearsGo_7 rfl (lv_at hl 0 rfl) ?_
    obtain ⟨s2, hc, hB⟩ := bindP_inv hB
    refine q_govF (va_runV (As := []) (rest := []) C (cr_yearGoes hc _) (cwV 0 hts gX11_yearsGo_X11_yearGoes rfl rfl rfl (by decide +kernel) ⟨Nat.le_of_ble_eq_true rfl, Nat.le_of_ble_eq_true rfl⟩) (q_preV hK hP (ci := 11) (q0 := 0) rfl rfl rfl (q_preF hN hK hP hD)) rfl rfl hl.1 rfl (lv_room (Nat.le_of_ble_eq_true rfl)) dX11_yearsGo_8 ⟨Nat.le_of_ble_eq_true rfl, Nat.le_of_ble_eq_true rfl⟩) hD hS hA (fun w1 H locs hw hP hD hS => ?_)
    subst hw
    refine lv_iinc (v := (x2 + 1)) (lv' := [(2, .int (x2 + 1)), (0, .ref h), (1, .int x1)]) hx hb dX11_yearsGo_11 hl (k := 2) rfl (rfl) (by decide) rfl (fun ls hl => ?_)
    refine lv_goto (tgt := 2) hx hb dX11_yearsGo_14 (by decide) ?_
    exact hk2 _ _ _ hB p e s0 m below meth c A E H locs ls hP hD hS (lv_sub hl [1, 2, 0] rfl)
theorem br_yearsGo_2L {l : Launch} {dC : Nat → ClassId} {dI : Nat → Nat → Nat} {cB cI cJ cZ cS : ClassId} {h : Nat} {a : Nat → Nat} {as : List Value} {s' : RS} : ∀ (n : Nat) (s : RS) (x1 : Int32) (x2 : Int32), r_yearsGo_2L n s x1 x2 = some s' → BlkV l yX11_yearsGo wsX11_yearsGo ({ frames := 5, cells := 0, slots := 0, locals := 108 }) cX11_yearsGo 3 none (dC, dI) (tysA cB cI cJ cZ cS) as 2 (mwS cB cI cJ cZ h a s) [(0, .ref h), (1, .int x1), (2, .int x2)] [] (fun u => u = (mwS cB cI cJ cZ h a s')) := by
  intro n
  induction n with
  | zero => intro s x1 x2 hB; exact none_ne hB
  | succ n ih => intro s x1 x2 hB; exact br_yearsGo_2 ih _ _ _ hB
set_option maxHeartbeats 4000000 in
set_option maxRecDepth 100000 in
theorem br_yearsGo {l : Launch} {dC : Nat → ClassId} {dI : Nat → Nat → Nat} {cB cI cJ cZ cS : ClassId} {h : Nat} {a : Nat → Nat} {as : List Value} {s' : RS} (s : RS) (x1 : Int32) (hB : r_yearsGo s x1 = some s') : BlkV l yX11_yearsGo wsX11_yearsGo ({ frames := 5, cells := 0, slots := 0, locals := 108 }) cX11_yearsGo 3 none (dC, dI) (tysA cB cI cJ cZ cS) as 0 (mwS cB cI cJ cZ h a s) [(0, .ref h), (1, .int x1)] [] (fun u => u = (mwS cB cI cJ cZ h a s')) := by
  intro p e s0 m below meth c A E H locs ls hP hD hS hl
  obtain ⟨C, hr, hlocks, hA, hK, hN⟩ := id E
  obtain ⟨hx, hb, hml, hown, hts⟩ := id C
  unfold r_yearsGo at hB
  refine lv_iconst (v := 0) hx hb dX11_yearsGo_0 (by decide) ?_
  refine lv_istore_n (lv' := [(2, .int 0), (0, .ref h), (1, .int x1)]) hx hb dX11_yearsGo_1 rfl hl (by decide) rfl (fun ls hl => ?_)
  exact br_yearsGo_2L fu _ _ _ hB p e s0 m below meth c A E H locs ls hP hD hS (lv_sub hl [1, 2, 0] rfl)
theorem cr_yearsGo {l : Launch} {dC : Nat → ClassId} {dI : Nat → Nat → Nat} {cB cI cJ cZ cS : ClassId} {h : Nat} {a : Nat → Nat} {s' : RS} {s : RS} {x1 : Int32} (hB : r_yearsGo s x1 = some s') : CV l yX11_yearsGo wsX11_yearsGo ({ frames := 5, cells := 0, slots := 0, locals := 108 }) (dC, dI) (tysA cB cI cJ cZ cS) (mwS cB cI cJ cZ h a s) [.ref h, .int x1] (fun u => u = (mwS cB cI cJ cZ h a s')) :=
  CV_of (cc := cX11_yearsGo) (maxL := 3) (ret := none) (by decide) rfl (Nat.le_of_ble_eq_true rfl) (br_yearsGo _ _ hB)
theorem LX11_wave_101 : Cond.fieldLink RX11 101 "GuessFerryModel" "row" "[I" ∈ wsX11_wave := by decide +kernel
theorem inX11_wave_X11 : ∀ w ∈ u_ws RX11 TX11 58, w ∈ wsX11_wave := by decide +kernel
set_option maxHeartbeats 4000000 in
set_option maxRecDepth 100000 in
theorem br_wave {l : Launch} {dC : Nat → ClassId} {dI : Nat → Nat → Nat} {cB cI cJ cZ cS : ClassId} {h : Nat} {a : Nat → Nat} {as : List Value} {r : Int32} {s' : RS} (s : RS) (x1 : Int32) (x2 : Int32) (hB : r_wave s x1 x2 = some (r, s')) : BlkI l yX11_wave wsX11_wave ({ frames := 4, cells := 0, slots := 0, locals := 87 }) cX11_wave 3 (some .int) (dC, dI) (tysA cB cI cJ cZ cS) as 0 (mwS cB cI cJ cZ h a s) [(0, .ref h), (1, .int x1), (2, .int x2)] [] (fun x u => x = r ∧ u = (mwS cB cI cJ cZ h a s')) := by
  intro p e s0 m below meth c A E H locs ls hP hD hS hl
  obtain ⟨C, hr, hlocks, hA, hK, hN⟩ := id E
  obtain ⟨hx, hb, hml, hown, hts⟩ := id C
  unfold r_wave at hB
  refine lv_aload_n hx hb dX11_wave_0 rfl (lv_at hl 0 rfl) ?_
  refine lv_iload_n hx hb dX11_wave_1 rfl (lv_at hl 1 rfl) ?_
  obtain ⟨q_, s1, hc, hB⟩ := bindI_inv hB
  refine q_goiF (va_runV (As := [.int x1]) (rest := []) C (cr_isWave hc _) (cwV 1 hts gX11_wave_X11_isWave rfl rfl rfl (by decide +kernel) ⟨Nat.le_of_ble_eq_true rfl, Nat.le_of_ble_eq_true rfl⟩) (q_preV hK hP (ci := 11) (q0 := 0) rfl rfl rfl (q_preF hN hK hP hD)) rfl rfl hl.1 rfl (lv_room (Nat.le_of_ble_eq_true rfl)) dX11_wave_2 ⟨Nat.le_of_ble_eq_true rfl, Nat.le_of_ble_eq_true rfl⟩) hD hS hA (fun r2 w1 H locs hw hP hD hS => ?_)
  obtain ⟨hq_, hw⟩ := hw; subst hw; subst hq_
  refine lv_if_ne (tgt := 10) hx hb dX11_wave_5 (by decide) (fun c3 => ?_) (fun c3 => ?_)
  · have hB := if_n hB c3
    refine lv_aload_n hx hb dX11_wave_10 rfl (lv_at hl 0 rfl) ?_
    obtain ⟨s4, hc, hB⟩ := bindP_inv hB
    refine q_govF (va_runV (As := []) (rest := []) C (cr_copies hc _) (cwV 0 hts gX11_wave_X11_copies rfl rfl rfl (by decide +kernel) ⟨Nat.le_of_ble_eq_true rfl, Nat.le_of_ble_eq_true rfl⟩) (q_preV hK hP (ci := 11) (q0 := 0) rfl rfl rfl (q_preF hN hK hP hD)) rfl rfl hl.1 rfl (lv_room (Nat.le_of_ble_eq_true rfl)) dX11_wave_11 ⟨Nat.le_of_ble_eq_true rfl, Nat.le_of_ble_eq_true rfl⟩) hD hS hA (fun w1 H locs hw hP hD hS => ?_)
    subst hw
    refine lv_iload_n hx hb dX11_wave_14 rfl (lv_at hl 2 rfl) ?_
    by_cases e5 : x2 = 0
    · have hB := if_p hB e5
      refine q_top (y := 0) e5 ?_
      refine lv_tableIn (off := 37) (tgt := 52) hx hb dX11_wave_15 (by decide +kernel) (by decide +kernel) (by decide +kernel) (by decide) ?_
      refine lv_aload_n hx hb dX11_wave_52 rfl (lv_at hl 0 rfl) ?_
      refine lv_iload_n hx hb dX11_wave_53 rfl (lv_at hl 1 rfl) ?_
      obtain ⟨q_, s6, hc, hB⟩ := bindI_inv hB
      refine q_goiF (va_runV (As := [.int x1]) (rest := []) C (cr_mayAt hc _) (cwV 1 hts gX11_wave_X11_mayAt rfl rfl rfl (by decide +kernel) ⟨Nat.le_of_ble_eq_true rfl, Nat.le_of_ble_eq_true rfl⟩) (q_preV hK hP (ci := 11) (q0 := 0) rfl rfl rfl (q_preF hN hK hP hD)) rfl rfl hl.1 rfl (lv_room (Nat.le_of_ble_eq_true rfl)) dX11_wave_54 ⟨Nat.le_of_ble_eq_true rfl, Nat.le_of_ble_eq_true rfl⟩) hD hS hA (fun r7 w1 H locs hw hP hD hS => ?_)
      obtain ⟨hq_, hw⟩ := hw; subst hw; subst hq_
      exact q_iret C hr hlocks hK hP hD hS (Nat.le_of_ble_eq_true rfl) (Nat.le_of_ble_eq_true rfl) dX11_wave_57 (by cases hB; exact ⟨rfl, rfl⟩)
    · have hB := if_n hB e5
      by_cases e8 : x2 = 1
      · have hB := if_p hB e8
        refine q_top (y := 1) e8 ?_
        refine lv_tableIn (off := 43) (tgt := 58) hx hb dX11_wave_15 (by decide +kernel) (by decide +kernel) (by decide +kernel) (by decide) ?_
        refine lv_aload_n hx hb dX11_wave_58 rfl (lv_at hl 0 rfl) ?_
        refine q_get (v := .ref (a 44)) C inX11_wave_X11 hK hP 0 rfl rfl 44 (by decide) rfl LX11_wave_101 rfl dX11_wave_59 ?_
        refine lv_iconst (v := 5) hx hb dX11_wave_62 (by decide) ?_
        refine lv_iload_n hx hb dX11_wave_63 rfl (lv_at hl 1 rfl) ?_
        refine lv_iadd hx hb dX11_wave_64 ?_
        obtain ⟨g9, hB⟩ := guard_inv hB
        refine q_iald (x := (s4.f 44 (Int32.toNatClampNeg (5 + x1)))) C hK hP 28 1 rfl rfl (vpb_in g9) dX11_wave_65 rfl ?_
        exact q_iret C hr hlocks hK hP hD hS (Nat.le_of_ble_eq_true rfl) (Nat.le_of_ble_eq_true rfl) dX11_wave_66 (by cases hB; exact ⟨rfl, rfl⟩)
      · have hB := if_n hB e8
        by_cases e10 : x2 = 2
        · have hB := if_p hB e10
          refine q_top (y := 2) e10 ?_
          refine lv_tableIn (off := 52) (tgt := 67) hx hb dX11_wave_15 (by decide +kernel) (by decide +kernel) (by decide +kernel) (by decide) ?_
          refine lv_aload_n hx hb dX11_wave_67 rfl (lv_at hl 0 rfl) ?_
          refine q_get (v := .ref (a 44)) C inX11_wave_X11 hK hP 0 rfl rfl 44 (by decide) rfl LX11_wave_101 rfl dX11_wave_68 ?_
          refine lv_iload_n hx hb dX11_wave_71 rfl (lv_at hl 1 rfl) ?_
          obtain ⟨g11, hB⟩ := guard_inv hB
          refine q_iald (x := (s4.f 44 (Int32.toNatClampNeg x1))) C hK hP 28 1 rfl rfl (vpb_in g11) dX11_wave_72 rfl ?_
          exact q_iret C hr hlocks hK hP hD hS (Nat.le_of_ble_eq_true rfl) (Nat.le_of_ble_eq_true rfl) dX11_wave_73 (by cases hB; exact ⟨rfl, rfl⟩)
        · have hB := if_n hB e10
          by_cases e12 : x2 = 3
          · have hB := if_p hB e12
            refine q_top (y := 3) e12 ?_
            refine lv_tableIn (off := 59) (tgt := 74) hx hb dX11_wave_15 (by decide +kernel) (by decide +kernel) (by decide +kernel) (by decide) ?_
            refine lv_aload_n hx hb dX11_wave_74 rfl (lv_at hl 0 rfl) ?_
            refine q_get (v := .ref (a 44)) C inX11_wave_X11 hK hP 0 rfl rfl 44 (by decide) rfl LX11_wave_101 rfl dX11_wave_75 ?_
            refine lv_bipush (v := 10) hx hb dX11_wave_78 (by decide) ?_
            refine lv_iload_n hx hb dX11_wave_80 rfl (lv_at hl 1 rfl) ?_
            refine lv_iadd hx hb dX11_wave_81 ?_
            obtain ⟨g13, hB⟩ := guard_inv hB
            refine q_iald (x := (s4.f 44 (Int32.toNatClampNeg (10 + x1)))) C hK hP 28 1 rfl rfl (vpb_in g13) dX11_wave_82 rfl ?_
            exact q_iret C hr hlocks hK hP hD hS (Nat.le_of_ble_eq_true rfl) (Nat.le_of_ble_eq_true rfl) dX11_wave_83 (by cases hB; exact ⟨rfl, rfl⟩)
          · have hB := if_n hB e12
            by_cases e14 : x2 = 4
            · have hB := if_p hB e14
              refine q_top (y := 4) e14 ?_
              refine lv_tableIn (off := 69) (tgt := 84) hx hb dX11_wave_15 (by decide +kernel) (by decide +kernel) (by decide +kernel) (by decide) ?_
              refine lv_aload_n hx hb dX11_wave_84 rfl (lv_at hl 0 rfl) ?_
              refine lv_iload_n hx hb dX11_wave_85 rfl (lv_at hl 1 rfl) ?_
              obtain ⟨q_, s15, hc, hB⟩ := bindI_inv hB
              refine q_goiF (va_runV (As := [.int x1]) (rest := []) C (cr_thereAt hc _) (cwV 1 hts gX11_wave_X11_thereAt rfl rfl rfl (by decide +kernel) ⟨Nat.le_of_ble_eq_true rfl, Nat.le_of_ble_eq_true rfl⟩) (q_preV hK hP (ci := 11) (q0 := 0) rfl rfl rfl (q_preF hN hK hP hD)) rfl rfl hl.1 rfl (lv_room (Nat.le_of_ble_eq_true rfl)) dX11_wave_86 ⟨Nat.le_of_ble_eq_true rfl, Nat.le_of_ble_eq_true rfl⟩) hD hS hA (fun r16 w1 H locs hw hP hD hS => ?_)
              obtain ⟨hq_, hw⟩ := hw; subst hw; subst hq_
              exact q_iret C hr hlocks hK hP hD hS (Nat.le_of_ble_eq_true rfl) (Nat.le_of_ble_eq_true rfl) dX11_wave_89 (by cases hB; exact ⟨rfl, rfl⟩)
            · have hB := if_n hB e14
              by_cases e17 : x2 = 5
              · have hB := if_p hB e17
                refine q_top (y := 5) e17 ?_
                refine lv_tableIn (off := 75) (tgt := 90) hx hb dX11_wave_15 (by decide +kernel) (by decide +kernel) (by decide +kernel) (by decide) ?_
                refine lv_aload_n hx hb dX11_wave_90 rfl (lv_at hl 0 rfl) ?_
                refine lv_iload_n hx hb dX11_wave_91 rfl (lv_at hl 1 rfl) ?_
                obtain ⟨q_, s18, hc, hB⟩ := bindI_inv hB
                refine q_goiF (va_runV (As := [.int x1]) (rest := []) C (cr_shiftsOf hc _) (cwV 1 hts gX11_wave_X11_shiftsOf rfl rfl rfl (by decide +kernel) ⟨Nat.le_of_ble_eq_true rfl, Nat.le_of_ble_eq_true rfl⟩) (q_preV hK hP (ci := 11) (q0 := 0) rfl rfl rfl (q_preF hN hK hP hD)) rfl rfl hl.1 rfl (lv_room (Nat.le_of_ble_eq_true rfl)) dX11_wave_92 ⟨Nat.le_of_ble_eq_true rfl, Nat.le_of_ble_eq_true rfl⟩) hD hS hA (fun r19 w1 H locs hw hP hD hS => ?_)
                obtain ⟨hq_, hw⟩ := hw; subst hw; subst hq_
                exact q_iret C hr hlocks hK hP hD hS (Nat.le_of_ble_eq_true rfl) (Nat.le_of_ble_eq_true rfl) dX11_wave_95 (by cases hB; exact ⟨rfl, rfl⟩)
              · have hB := if_n hB e17
                refine lv_tableOut (tgt := 96) hx hb dX11_wave_15 (by have := ne_toInt (k := 0) rfl e5; have := ne_toInt (k := 1) rfl e8; have := ne_toInt (k := 2) rfl e10; have := ne_toInt (k := 3) rfl e12; have := ne_toInt (k := 4) rfl e14; have := ne_toInt (k := 5) rfl e17; omega) (by decide) ?_
                refine lv_iconst (v := (-1)) hx hb dX11_wave_96 (by decide) ?_
                exact q_iret C hr hlocks hK hP hD hS (Nat.le_of_ble_eq_true rfl) (Nat.le_of_ble_eq_true rfl) dX11_wave_97 (by cases hB; exact ⟨rfl, rfl⟩)
  · have hB := if_p hB c3
    refine lv_iconst (v := (-1)) hx hb dX11_wave_8 (by decide) ?_
    exact q_iret C hr hlocks hK hP hD hS (Nat.le_of_ble_eq_true rfl) (Nat.le_of_ble_eq_true rfl) dX11_wave_9 (by cases hB; exact ⟨rfl, rfl⟩)
theorem cr_wave {l : Launch} {dC : Nat → ClassId} {dI : Nat → Nat → Nat} {cB cI cJ cZ cS : ClassId} {h : Nat} {a : Nat → Nat} {r : Int32} {s' : RS} {s : RS} {x1 : Int32} {x2 : Int32} (hB : r_wave s x1 x2 = some (r, s')) : CI l yX11_wave wsX11_wave ({ frames := 4, cells := 0, slots := 0, locals := 87 }) (dC, dI) (tysA cB cI cJ cZ cS) (mwS cB cI cJ cZ h a s) [.ref h, .int x1, .int x2] (fun x u => x = r ∧ u = (mwS cB cI cJ cZ h a s')) :=
  CI_of (cc := cX11_wave) (maxL := 3) (ret := (some .int)) (by decide) rfl (Nat.le_of_ble_eq_true rfl) (br_wave _ _ _ hB)
set_option maxHeartbeats 4000000 in
set_option maxRecDepth 100000 in
theorem br_odds {l : Launch} {dC : Nat → ClassId} {dI : Nat → Nat → Nat} {cB cI cJ cZ cS : ClassId} {h : Nat} {a : Nat → Nat} {as : List Value} {r : Int32} {s' : RS} (s : RS) (x1 : Int32) (x2 : Int32) (hB : r_odds s x1 x2 = some (r, s')) : BlkI l yX11_odds wsX11_odds ({ frames := 2, cells := 0, slots := 0, locals := 43 }) cX11_odds 3 (some .int) (dC, dI) (tysA cB cI cJ cZ cS) as 0 (mwS cB cI cJ cZ h a s) [(0, .ref h), (1, .int x1), (2, .int x2)] [] (fun x u => x = r ∧ u = (mwS cB cI cJ cZ h a s')) := by
  intro p e s0 m below meth c A E H locs ls hP hD hS hl
  obtain ⟨C, hr, hlocks, hA, hK, hN⟩ := id E
  obtain ⟨hx, hb, hml, hown, hts⟩ := id C
  unfold r_odds at hB
  refine lv_aload_n hx hb dX11_odds_0 rfl (lv_at hl 0 rfl) ?_
  refine lv_iload_n hx hb dX11_odds_1 rfl (lv_at hl 1 rfl) ?_
  obtain ⟨q_, s1, hc, hB⟩ := bindI_inv hB
  refine q_goiF (va_runV (As := [.int x1]) (rest := []) C (cr_isWave hc _) (cwV 1 hts gX11_odds_X11_isWave rfl rfl rfl (by decide +kernel) ⟨Nat.le_of_ble_eq_true rfl, Nat.le_of_ble_eq_true rfl⟩) (q_preV hK hP (ci := 11) (q0 := 0) rfl rfl rfl (q_preF hN hK hP hD)) rfl rfl hl.1 rfl (lv_room (Nat.le_of_ble_eq_true rfl)) dX11_odds_2 ⟨Nat.le_of_ble_eq_true rfl, Nat.le_of_ble_eq_true rfl⟩) hD hS hA (fun r2 w1 H locs hw hP hD hS => ?_)
  obtain ⟨hq_, hw⟩ := hw; subst hw; subst hq_
  refine lv_if_eq (tgt := 24) hx hb dX11_odds_5 (by decide) (fun c3 => ?_) (fun c3 => ?_)
  · have hB := if_p hB c3
    refine lv_iconst (v := (-1)) hx hb dX11_odds_24 (by decide) ?_
    exact q_iret C hr hlocks hK hP hD hS (Nat.le_of_ble_eq_true rfl) (Nat.le_of_ble_eq_true rfl) dX11_odds_25 (by cases hB; exact ⟨rfl, rfl⟩)
  · have hB := if_n hB c3
    refine lv_iload_n hx hb dX11_odds_8 rfl (lv_at hl 2 rfl) ?_
    obtain ⟨q_, hc, hB⟩ := bindP_inv hB
    refine q_goi0 (va_runS (As := [.int x2]) (rest := []) C (cr_isThing hc _) (va_cwS 1 hts gX11_odds_X11_isThing rfl rfl rfl (by decide +kernel) ⟨Nat.le_of_ble_eq_true rfl, Nat.le_of_ble_eq_true rfl⟩) (q_pre0 hN hK) rfl rfl hl.1 rfl (lv_room (Nat.le_of_ble_eq_true rfl)) dX11_odds_9 ⟨Nat.le_of_ble_eq_true rfl, Nat.le_of_ble_eq_true rfl⟩) hP hD hS hA (fun r4 w1 H locs hw hP hS => ?_)
    subst hw
    refine lv_if_eq (tgt := 24) hx hb dX11_odds_12 (by decide) (fun c5 => ?_) (fun c5 => ?_)
    · have hB := if_p hB c5
      refine lv_iconst (v := (-1)) hx hb dX11_odds_24 (by decide) ?_
      exact q_iret C hr hlocks hK hP hD hS (Nat.le_of_ble_eq_true rfl) (Nat.le_of_ble_eq_true rfl) dX11_odds_25 (by cases hB; exact ⟨rfl, rfl⟩)
    · have hB := if_n hB c5
      refine lv_aload_n hx hb dX11_odds_15 rfl (lv_at hl 0 rfl) ?_
      refine lv_iload_n hx hb dX11_odds_16 rfl (lv_at hl 1 rfl) ?_
      refine lv_iload_n hx hb dX11_odds_17 rfl (lv_at hl 2 rfl) ?_
      obtain ⟨q_, s6, hc, hB⟩ := bindI_inv hB
      refine q_goiF (va_runV (As := [.int x1, .int x2]) (rest := []) C (cr_oddsAt hc _) (cwV 2 hts gX11_odds_X11_oddsAt rfl rfl rfl (by decide +kernel) ⟨Nat.le_of_ble_eq_true rfl, Nat.le_of_ble_eq_true rfl⟩) (q_preV hK hP (ci := 11) (q0 := 0) rfl rfl rfl (q_preF hN hK hP hD)) rfl rfl hl.1 rfl (lv_room (Nat.le_of_ble_eq_true rfl)) dX11_odds_18 ⟨Nat.le_of_ble_eq_true rfl, Nat.le_of_ble_eq_true rfl⟩) hD hS hA (fun r7 w1 H locs hw hP hD hS => ?_)
      obtain ⟨hq_, hw⟩ := hw; subst hw; subst hq_
      refine lv_goto (tgt := 25) hx hb dX11_odds_21 (by decide) ?_
      exact q_iret C hr hlocks hK hP hD hS (Nat.le_of_ble_eq_true rfl) (Nat.le_of_ble_eq_true rfl) dX11_odds_25 (by cases hB; exact ⟨rfl, rfl⟩)
theorem cr_odds {l : Launch} {dC : Nat → ClassId} {dI : Nat → Nat → Nat} {cB cI cJ cZ cS : ClassId} {h : Nat} {a : Nat → Nat} {r : Int32} {s' : RS} {s : RS} {x1 : Int32} {x2 : Int32} (hB : r_odds s x1 x2 = some (r, s')) : CI l yX11_odds wsX11_odds ({ frames := 2, cells := 0, slots := 0, locals := 43 }) (dC, dI) (tysA cB cI cJ cZ cS) (mwS cB cI cJ cZ h a s) [.ref h, .int x1, .int x2] (fun x u => x = r ∧ u = (mwS cB cI cJ cZ h a s')) :=
  CI_of (cc := cX11_odds) (maxL := 3) (ret := (some .int)) (by decide) rfl (Nat.le_of_ble_eq_true rfl) (br_odds _ _ _ hB)
theorem LX11_party_101 : Cond.fieldLink RX11 101 "GuessFerryModel" "row" "[I" ∈ wsX11_party := by decide +kernel
theorem LX11_party_215 : Cond.fieldLink RX11 215 "GuessFerryModel" "live" "I" ∈ wsX11_party := by decide +kernel
theorem LX11_party_52 : Cond.fieldLink RX11 52 "GuessFerryModel" "heavyOf" "[I" ∈ wsX11_party := by decide +kernel
theorem LX11_party_55 : Cond.fieldLink RX11 55 "GuessFerryModel" "nerveOf" "[I" ∈ wsX11_party := by decide +kernel
theorem inX11_party_X11 : ∀ w ∈ u_ws RX11 TX11 58, w ∈ wsX11_party := by decide +kernel
set_option maxHeartbeats 4000000 in
set_option maxRecDepth 100000 in
theorem br_party {l : Launch} {dC : Nat → ClassId} {dI : Nat → Nat → Nat} {cB cI cJ cZ cS : ClassId} {h : Nat} {a : Nat → Nat} {as : List Value} {r : Int32} {s' : RS} (s : RS) (x1 : Int32) (x2 : Int32) (hB : r_party s x1 x2 = some (r, s')) : BlkI l yX11_party wsX11_party ({ frames := 3, cells := 0, slots := 0, locals := 74 }) cX11_party 3 (some .int) (dC, dI) (tysA cB cI cJ cZ cS) as 0 (mwS cB cI cJ cZ h a s) [(0, .ref h), (1, .int x1), (2, .int x2)] [] (fun x u => x = r ∧ u = (mwS cB cI cJ cZ h a s')) := by
  intro p e s0 m below meth c A E H locs ls hP hD hS hl
  obtain ⟨C, hr, hlocks, hA, hK, hN⟩ := id E
  obtain ⟨hx, hb, hml, hown, hts⟩ := id C
  unfold r_party at hB
  refine lv_aload_n hx hb dX11_party_0 rfl (lv_at hl 0 rfl) ?_
  refine lv_iload_n hx hb dX11_party_1 rfl (lv_at hl 1 rfl) ?_
  obtain ⟨q_, s1, hc, hB⟩ := bindI_inv hB
  refine q_goiF (va_runV (As := [.int x1]) (rest := []) C (cr_isParty hc _) (cwV 1 hts gX11_party_X11_isParty rfl rfl rfl (by decide +kernel) ⟨Nat.le_of_ble_eq_true rfl, Nat.le_of_ble_eq_true rfl⟩) (q_preV hK hP (ci := 11) (q0 := 0) rfl rfl rfl (q_preF hN hK hP hD)) rfl rfl hl.1 rfl (lv_room (Nat.le_of_ble_eq_true rfl)) dX11_party_2 ⟨Nat.le_of_ble_eq_true rfl, Nat.le_of_ble_eq_true rfl⟩) hD hS hA (fun r2 w1 H locs hw hP hD hS => ?_)
  obtain ⟨hq_, hw⟩ := hw; subst hw; subst hq_
  refine lv_if_ne (tgt := 10) hx hb dX11_party_5 (by decide) (fun c3 => ?_) (fun c3 => ?_)
  · have hB := if_n hB c3
    refine lv_aload_n hx hb dX11_party_10 rfl (lv_at hl 0 rfl) ?_
    obtain ⟨s4, hc, hB⟩ := bindP_inv hB
    refine q_govF (va_runV (As := []) (rest := []) C (cr_copies hc _) (cwV 0 hts gX11_party_X11_copies rfl rfl rfl (by decide +kernel) ⟨Nat.le_of_ble_eq_true rfl, Nat.le_of_ble_eq_true rfl⟩) (q_preV hK hP (ci := 11) (q0 := 0) rfl rfl rfl (q_preF hN hK hP hD)) rfl rfl hl.1 rfl (lv_room (Nat.le_of_ble_eq_true rfl)) dX11_party_11 ⟨Nat.le_of_ble_eq_true rfl, Nat.le_of_ble_eq_true rfl⟩) hD hS hA (fun w1 H locs hw hP hD hS => ?_)
    subst hw
    refine lv_iload_n hx hb dX11_party_14 rfl (lv_at hl 2 rfl) ?_
    by_cases e5 : x2 = 0
    · have hB := if_p hB e5
      refine q_top (y := 0) e5 ?_
      refine lv_tableIn (off := 37) (tgt := 52) hx hb dX11_party_15 (by decide +kernel) (by decide +kernel) (by decide +kernel) (by decide) ?_
      refine lv_aload_n hx hb dX11_party_52 rfl (lv_at hl 0 rfl) ?_
      refine q_get (v := .ref (a 24)) C inX11_party_X11 hK hP 0 rfl rfl 24 (by decide) rfl LX11_party_52 rfl dX11_party_53 ?_
      refine lv_bipush (v := 6) hx hb dX11_party_56 (by decide) ?_
      refine lv_aload_n hx hb dX11_party_58 rfl (lv_at hl 0 rfl) ?_
      refine q_get (v := .int (s4.v 18)) C inX11_party_X11 hK hP 0 rfl rfl 18 (by decide) rfl LX11_party_215 rfl dX11_party_59 ?_
      refine lv_imul hx hb dX11_party_62 ?_
      refine lv_iload_n hx hb dX11_party_63 rfl (lv_at hl 1 rfl) ?_
      refine lv_iadd hx hb dX11_party_64 ?_
      obtain ⟨g6, hB⟩ := guard_inv hB
      refine q_iald (x := (s4.f 24 (Int32.toNatClampNeg ((6 * (s4.v 18)) + x1)))) C hK hP 12 1 rfl rfl (vpb_in g6) dX11_party_65 rfl ?_
      exact q_iret C hr hlocks hK hP hD hS (Nat.le_of_ble_eq_true rfl) (Nat.le_of_ble_eq_true rfl) dX11_party_66 (by cases hB; exact ⟨rfl, rfl⟩)
    · have hB := if_n hB e5
      by_cases e7 : x2 = 1
      · have hB := if_p hB e7
        refine q_top (y := 1) e7 ?_
        refine lv_tableIn (off := 52) (tgt := 67) hx hb dX11_party_15 (by decide +kernel) (by decide +kernel) (by decide +kernel) (by decide) ?_
        refine lv_aload_n hx hb dX11_party_67 rfl (lv_at hl 0 rfl) ?_
        refine q_get (v := .ref (a 25)) C inX11_party_X11 hK hP 0 rfl rfl 25 (by decide) rfl LX11_party_55 rfl dX11_party_68 ?_
        refine lv_bipush (v := 6) hx hb dX11_party_71 (by decide) ?_
        refine lv_aload_n hx hb dX11_party_73 rfl (lv_at hl 0 rfl) ?_
        refine q_get (v := .int (s4.v 18)) C inX11_party_X11 hK hP 0 rfl rfl 18 (by decide) rfl LX11_party_215 rfl dX11_party_74 ?_
        refine lv_imul hx hb dX11_party_77 ?_
        refine lv_iload_n hx hb dX11_party_78 rfl (lv_at hl 1 rfl) ?_
        refine lv_iadd hx hb dX11_party_79 ?_
        obtain ⟨g8, hB⟩ := guard_inv hB
        refine q_iald (x := (s4.f 25 (Int32.toNatClampNeg ((6 * (s4.v 18)) + x1)))) C hK hP 13 1 rfl rfl (vpb_in g8) dX11_party_80 rfl ?_
        exact q_iret C hr hlocks hK hP hD hS (Nat.le_of_ble_eq_true rfl) (Nat.le_of_ble_eq_true rfl) dX11_party_81 (by cases hB; exact ⟨rfl, rfl⟩)
      · have hB := if_n hB e7
        by_cases e9 : x2 = 2
        · have hB := if_p hB e9
          refine q_top (y := 2) e9 ?_
          refine lv_tableIn (off := 67) (tgt := 82) hx hb dX11_party_15 (by decide +kernel) (by decide +kernel) (by decide +kernel) (by decide) ?_
          refine lv_aload_n hx hb dX11_party_82 rfl (lv_at hl 0 rfl) ?_
          refine q_get (v := .ref (a 44)) C inX11_party_X11 hK hP 0 rfl rfl 44 (by decide) rfl LX11_party_101 rfl dX11_party_83 ?_
          refine lv_bipush (v := 15) hx hb dX11_party_86 (by decide) ?_
          refine lv_iload_n hx hb dX11_party_88 rfl (lv_at hl 1 rfl) ?_
          refine lv_iadd hx hb dX11_party_89 ?_
          obtain ⟨g10, hB⟩ := guard_inv hB
          refine q_iald (x := (s4.f 44 (Int32.toNatClampNeg (15 + x1)))) C hK hP 28 1 rfl rfl (vpb_in g10) dX11_party_90 rfl ?_
          exact q_iret C hr hlocks hK hP hD hS (Nat.le_of_ble_eq_true rfl) (Nat.le_of_ble_eq_true rfl) dX11_party_91 (by cases hB; exact ⟨rfl, rfl⟩)
        · have hB := if_n hB e9
          by_cases e11 : x2 = 3
          · have hB := if_p hB e11
            refine q_top (y := 3) e11 ?_
            refine lv_tableIn (off := 77) (tgt := 92) hx hb dX11_party_15 (by decide +kernel) (by decide +kernel) (by decide +kernel) (by decide) ?_
            refine lv_aload_n hx hb dX11_party_92 rfl (lv_at hl 0 rfl) ?_
            refine q_get (v := .ref (a 44)) C inX11_party_X11 hK hP 0 rfl rfl 44 (by decide) rfl LX11_party_101 rfl dX11_party_93 ?_
            refine lv_bipush (v := 21) hx hb dX11_party_96 (by decide) ?_
            refine lv_iload_n hx hb dX11_party_98 rfl (lv_at hl 1 rfl) ?_
            refine lv_iadd hx hb dX11_party_99 ?_
            obtain ⟨g12, hB⟩ := guard_inv hB
            refine q_iald (x := (s4.f 44 (Int32.toNatClampNeg (21 + x1)))) C hK hP 28 1 rfl rfl (vpb_in g12) dX11_party_100 rfl ?_
            exact q_iret C hr hlocks hK hP hD hS (Nat.le_of_ble_eq_true rfl) (Nat.le_of_ble_eq_true rfl) dX11_party_101 (by cases hB; exact ⟨rfl, rfl⟩)
          · have hB := if_n hB e11
            by_cases e13 : x2 = 4
            · have hB := if_p hB e13
              refine q_top (y := 4) e13 ?_
              refine lv_tableIn (off := 87) (tgt := 102) hx hb dX11_party_15 (by decide +kernel) (by decide +kernel) (by decide +kernel) (by decide) ?_
              refine lv_aload_n hx hb dX11_party_102 rfl (lv_at hl 0 rfl) ?_
              refine lv_iload_n hx hb dX11_party_103 rfl (lv_at hl 1 rfl) ?_
              obtain ⟨q_, s14, hc, hB⟩ := bindI_inv hB
              refine q_goiF (va_runV (As := [.int x1]) (rest := []) C (cr_faresOf hc _) (cwV 1 hts gX11_party_X11_faresOf rfl rfl rfl (by decide +kernel) ⟨Nat.le_of_ble_eq_true rfl, Nat.le_of_ble_eq_true rfl⟩) (q_preV hK hP (ci := 11) (q0 := 0) rfl rfl rfl (q_preF hN hK hP hD)) rfl rfl hl.1 rfl (lv_room (Nat.le_of_ble_eq_true rfl)) dX11_party_104 ⟨Nat.le_of_ble_eq_true rfl, Nat.le_of_ble_eq_true rfl⟩) hD hS hA (fun r15 w1 H locs hw hP hD hS => ?_)
              obtain ⟨hq_, hw⟩ := hw; subst hw; subst hq_
              exact q_iret C hr hlocks hK hP hD hS (Nat.le_of_ble_eq_true rfl) (Nat.le_of_ble_eq_true rfl) dX11_party_107 (by cases hB; exact ⟨rfl, rfl⟩)
            · have hB := if_n hB e13
              by_cases e16 : x2 = 5
              · have hB := if_p hB e16
                refine q_top (y := 5) e16 ?_
                refine lv_tableIn (off := 93) (tgt := 108) hx hb dX11_party_15 (by decide +kernel) (by decide +kernel) (by decide +kernel) (by decide) ?_
                refine lv_aload_n hx hb dX11_party_108 rfl (lv_at hl 0 rfl) ?_
                refine lv_iload_n hx hb dX11_party_109 rfl (lv_at hl 1 rfl) ?_
                obtain ⟨q_, s17, hc, hB⟩ := bindI_inv hB
                refine q_goiF (va_runV (As := [.int x1]) (rest := []) C (cr_doesDare hc _) (cwV 1 hts gX11_party_X11_doesDare rfl rfl rfl (by decide +kernel) ⟨Nat.le_of_ble_eq_true rfl, Nat.le_of_ble_eq_true rfl⟩) (q_preV hK hP (ci := 11) (q0 := 0) rfl rfl rfl (q_preF hN hK hP hD)) rfl rfl hl.1 rfl (lv_room (Nat.le_of_ble_eq_true rfl)) dX11_party_110 ⟨Nat.le_of_ble_eq_true rfl, Nat.le_of_ble_eq_true rfl⟩) hD hS hA (fun r18 w1 H locs hw hP hD hS => ?_)
                obtain ⟨hq_, hw⟩ := hw; subst hw; subst hq_
                refine lv_if_eq (tgt := 120) hx hb dX11_party_113 (by decide) (fun c19 => ?_) (fun c19 => ?_)
                · have hB := if_p hB c19
                  refine lv_iconst (v := 0) hx hb dX11_party_120 (by decide) ?_
                  exact q_iret C hr hlocks hK hP hD hS (Nat.le_of_ble_eq_true rfl) (Nat.le_of_ble_eq_true rfl) dX11_party_121 (by cases hB; exact ⟨rfl, rfl⟩)
                · have hB := if_n hB c19
                  refine lv_iconst (v := 1) hx hb dX11_party_116 (by decide) ?_
                  refine lv_goto (tgt := 121) hx hb dX11_party_117 (by decide) ?_
                  exact q_iret C hr hlocks hK hP hD hS (Nat.le_of_ble_eq_true rfl) (Nat.le_of_ble_eq_true rfl) dX11_party_121 (by cases hB; exact ⟨rfl, rfl⟩)
              · have hB := if_n hB e16
                refine lv_tableOut (tgt := 122) hx hb dX11_party_15 (by have := ne_toInt (k := 0) rfl e5; have := ne_toInt (k := 1) rfl e7; have := ne_toInt (k := 2) rfl e9; have := ne_toInt (k := 3) rfl e11; have := ne_toInt (k := 4) rfl e13; have := ne_toInt (k := 5) rfl e16; omega) (by decide) ?_
                refine lv_iconst (v := (-1)) hx hb dX11_party_122 (by decide) ?_
                exact q_iret C hr hlocks hK hP hD hS (Nat.le_of_ble_eq_true rfl) (Nat.le_of_ble_eq_true rfl) dX11_party_123 (by cases hB; exact ⟨rfl, rfl⟩)
  · have hB := if_p hB c3
    refine lv_iconst (v := (-1)) hx hb dX11_party_8 (by decide) ?_
    exact q_iret C hr hlocks hK hP hD hS (Nat.le_of_ble_eq_true rfl) (Nat.le_of_ble_eq_true rfl) dX11_party_9 (by cases hB; exact ⟨rfl, rfl⟩)
theorem cr_party {l : Launch} {dC : Nat → ClassId} {dI : Nat → Nat → Nat} {cB cI cJ cZ cS : ClassId} {h : Nat} {a : Nat → Nat} {r : Int32} {s' : RS} {s : RS} {x1 : Int32} {x2 : Int32} (hB : r_party s x1 x2 = some (r, s')) : CI l yX11_party wsX11_party ({ frames := 3, cells := 0, slots := 0, locals := 74 }) (dC, dI) (tysA cB cI cJ cZ cS) (mwS cB cI cJ cZ h a s) [.ref h, .int x1, .int x2] (fun x u => x = r ∧ u = (mwS cB cI cJ cZ h a s')) :=
  CI_of (cc := cX11_party) (maxL := 3) (ret := (some .int)) (by decide) rfl (Nat.le_of_ble_eq_true rfl) (br_party _ _ _ hB)
