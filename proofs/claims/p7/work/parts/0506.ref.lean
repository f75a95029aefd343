set_option maxRecDepth 20000 in
theorem ggX11_lawTells_X11_termOf : GoodIn wsX11_lawTells wsX11_termOf := goodIn_r _ [14, 15, 16, 17, 18, 4, 19, 20, 21, 22, 23, 24, 25, 26, 27, 28, 29, 30, 31, 32, 33, 34, 35, 36, 37, 38, 39, 40, 41, 42, 43, 44, 45, 46, 47, 48, 49, 50, 51, 52, 53, 54, 55, 56, 57, 58, 59, 60, 61, 62, 63, 64, 65, 66, 67, 68, 69, 70, 71, 72, 73, 74, 75, 76] (by decide +kernel) (by decide +kernel)
set_option maxRecDepth 20000 in
theorem gX11_lawTells_X11_termOf : GoodIn wsX11_lawTells (wsV RX11 306 RX11 yX11_termOf wsX11_termOf) := goodIn_app (goodIn_of _ (by decide +kernel)) ggX11_lawTells_X11_termOf
theorem dX11_lawTells_0 : decode cX11_lawTells 0 = .ok (.iconst 4, 1) := by decide +kernel
theorem dX11_lawTells_1 : decode cX11_lawTells 1 = .ok (.aload_n 0, 1) := by decide +kernel
theorem dX11_lawTells_2 : decode cX11_lawTells 2 = .ok (.getfield 215, 3) := by decide +kernel
theorem dX11_lawTells_5 : decode cX11_lawTells 5 = .ok (.imul, 1) := by decide +kernel
theorem dX11_lawTells_6 : decode cX11_lawTells 6 = .ok (.iload_n 1, 1) := by decide +kernel
theorem dX11_lawTells_7 : decode cX11_lawTells 7 = .ok (.iadd, 1) := by decide +kernel
theorem dX11_lawTells_8 : decode cX11_lawTells 8 = .ok (.istore_n 3, 1) := by decide +kernel
theorem dX11_lawTells_9 : decode cX11_lawTells 9 = .ok (.aload_n 0, 1) := by decide +kernel
theorem dX11_lawTells_10 : decode cX11_lawTells 10 = .ok (.getfield 61, 3) := by decide +kernel
theorem dX11_lawTells_13 : decode cX11_lawTells 13 = .ok (.iload_n 3, 1) := by decide +kernel
theorem dX11_lawTells_14 : decode cX11_lawTells 14 = .ok (.iaload, 1) := by decide +kernel
theorem dX11_lawTells_15 : decode cX11_lawTells 15 = .ok (.aload_n 0, 1) := by decide +kernel
theorem dX11_lawTells_16 : decode cX11_lawTells 16 = .ok (.getfield 64, 3) := by decide +kernel
theorem dX11_lawTells_19 : decode cX11_lawTells 19 = .ok (.iload_n 3, 1) := by decide +kernel
theorem dX11_lawTells_20 : decode cX11_lawTells 20 = .ok (.iaload, 1) := by decide +kernel
theorem dX11_lawTells_21 : decode cX11_lawTells 21 = .ok (.if_icmp .ne 5, 3) := by decide +kernel
theorem dX11_lawTells_24 : decode cX11_lawTells 24 = .ok (.iload_n 2, 1) := by decide +kernel
theorem dX11_lawTells_25 : decode cX11_lawTells 25 = .ok (.ireturn, 1) := by decide +kernel
theorem dX11_lawTells_26 : decode cX11_lawTells 26 = .ok (.aload_n 0, 1) := by decide +kernel
theorem dX11_lawTells_27 : decode cX11_lawTells 27 = .ok (.iconst 0, 1) := by decide +kernel
theorem dX11_lawTells_28 : decode cX11_lawTells 28 = .ok (.putfield 277, 3) := by decide +kernel
theorem dX11_lawTells_31 : decode cX11_lawTells 31 = .ok (.aload_n 0, 1) := by decide +kernel
theorem dX11_lawTells_32 : decode cX11_lawTells 32 = .ok (.getfield 61, 3) := by decide +kernel
theorem dX11_lawTells_35 : decode cX11_lawTells 35 = .ok (.iload_n 3, 1) := by decide +kernel
theorem dX11_lawTells_36 : decode cX11_lawTells 36 = .ok (.iaload, 1) := by decide +kernel
theorem dX11_lawTells_37 : decode cX11_lawTells 37 = .ok (.istore 4, 2) := by decide +kernel
theorem dX11_lawTells_39 : decode cX11_lawTells 39 = .ok (.iload 4, 2) := by decide +kernel
theorem dX11_lawTells_41 : decode cX11_lawTells 41 = .ok (.aload_n 0, 1) := by decide +kernel
theorem dX11_lawTells_42 : decode cX11_lawTells 42 = .ok (.getfield 64, 3) := by decide +kernel
theorem dX11_lawTells_45 : decode cX11_lawTells 45 = .ok (.iload_n 3, 1) := by decide +kernel
theorem dX11_lawTells_46 : decode cX11_lawTells 46 = .ok (.iaload, 1) := by decide +kernel
theorem dX11_lawTells_47 : decode cX11_lawTells 47 = .ok (.if_icmp .ge 112, 3) := by decide +kernel
theorem dX11_lawTells_50 : decode cX11_lawTells 50 = .ok (.aload_n 0, 1) := by decide +kernel
theorem dX11_lawTells_51 : decode cX11_lawTells 51 = .ok (.getfield 67, 3) := by decide +kernel
theorem dX11_lawTells_54 : decode cX11_lawTells 54 = .ok (.iload 4, 2) := by decide +kernel
theorem dX11_lawTells_56 : decode cX11_lawTells 56 = .ok (.baload, 1) := by decide +kernel
theorem dX11_lawTells_57 : decode cX11_lawTells 57 = .ok (.ifCond .eq 62, 3) := by decide +kernel
theorem dX11_lawTells_60 : decode cX11_lawTells 60 = .ok (.aload_n 0, 1) := by decide +kernel
theorem dX11_lawTells_61 : decode cX11_lawTells 61 = .ok (.aload_n 0, 1) := by decide +kernel
theorem dX11_lawTells_62 : decode cX11_lawTells 62 = .ok (.getfield 71, 3) := by decide +kernel
theorem dX11_lawTells_65 : decode cX11_lawTells 65 = .ok (.iload 4, 2) := by decide +kernel
theorem dX11_lawTells_67 : decode cX11_lawTells 67 = .ok (.iaload, 1) := by decide +kernel
theorem dX11_lawTells_68 : decode cX11_lawTells 68 = .ok (.aload_n 0, 1) := by decide +kernel
theorem dX11_lawTells_69 : decode cX11_lawTells 69 = .ok (.getfield 74, 3) := by decide +kernel
theorem dX11_lawTells_72 : decode cX11_lawTells 72 = .ok (.iload 4, 2) := by decide +kernel
theorem dX11_lawTells_74 : decode cX11_lawTells 74 = .ok (.iaload, 1) := by decide +kernel
theorem dX11_lawTells_75 : decode cX11_lawTells 75 = .ok (.invokevirtual 306, 3) := by decide +kernel
theorem dX11_lawTells_78 : decode cX11_lawTells 78 = .ok (.istore 5, 2) := by decide +kernel
theorem dX11_lawTells_80 : decode cX11_lawTells 80 = .ok (.aload_n 0, 1) := by decide +kernel
theorem dX11_lawTells_81 : decode cX11_lawTells 81 = .ok (.aload_n 0, 1) := by decide +kernel
theorem dX11_lawTells_82 : decode cX11_lawTells 82 = .ok (.getfield 74, 3) := by decide +kernel
theorem dX11_lawTells_85 : decode cX11_lawTells 85 = .ok (.iload 4, 2) := by decide +kernel
theorem dX11_lawTells_87 : decode cX11_lawTells 87 = .ok (.iaload, 1) := by decide +kernel
theorem dX11_lawTells_88 : decode cX11_lawTells 88 = .ok (.aload_n 0, 1) := by decide +kernel
theorem dX11_lawTells_89 : decode cX11_lawTells 89 = .ok (.getfield 77, 3) := by decide +kernel
theorem dX11_lawTells_92 : decode cX11_lawTells 92 = .ok (.iload 4, 2) := by decide +kernel
theorem dX11_lawTells_94 : decode cX11_lawTells 94 = .ok (.iaload, 1) := by decide +kernel
theorem dX11_lawTells_95 : decode cX11_lawTells 95 = .ok (.invokevirtual 306, 3) := by decide +kernel
theorem dX11_lawTells_98 : decode cX11_lawTells 98 = .ok (.istore 6, 2) := by decide +kernel
theorem dX11_lawTells_100 : decode cX11_lawTells 100 = .ok (.aload_n 0, 1) := by decide +kernel
theorem dX11_lawTells_101 : decode cX11_lawTells 101 = .ok (.getfield 277, 3) := by decide +kernel
theorem dX11_lawTells_104 : decode cX11_lawTells 104 = .ok (.ifCond .eq 5, 3) := by decide +kernel
theorem dX11_lawTells_107 : decode cX11_lawTells 107 = .ok (.iconst 0, 1) := by decide +kernel
theorem dX11_lawTells_108 : decode cX11_lawTells 108 = .ok (.ireturn, 1) := by decide +kernel
theorem dX11_lawTells_109 : decode cX11_lawTells 109 = .ok (.iload 5, 2) := by decide +kernel
theorem dX11_lawTells_111 : decode cX11_lawTells 111 = .ok (.iload 6, 2) := by decide +kernel
theorem dX11_lawTells_113 : decode cX11_lawTells 113 = .ok (.if_icmp .lt 6, 3) := by decide +kernel
theorem dX11_lawTells_116 : decode cX11_lawTells 116 = .ok (.goto 37, 3) := by decide +kernel
theorem dX11_lawTells_119 : decode cX11_lawTells 119 = .ok (.aload_n 0, 1) := by decide +kernel
theorem dX11_lawTells_120 : decode cX11_lawTells 120 = .ok (.aload_n 0, 1) := by decide +kernel
theorem dX11_lawTells_121 : decode cX11_lawTells 121 = .ok (.getfield 77, 3) := by decide +kernel
theorem dX11_lawTells_124 : decode cX11_lawTells 124 = .ok (.iload 4, 2) := by decide +kernel
theorem dX11_lawTells_126 : decode cX11_lawTells 126 = .ok (.iaload, 1) := by decide +kernel
theorem dX11_lawTells_127 : decode cX11_lawTells 127 = .ok (.aload_n 0, 1) := by decide +kernel
theorem dX11_lawTells_128 : decode cX11_lawTells 128 = .ok (.getfield 80, 3) := by decide +kernel
theorem dX11_lawTells_131 : decode cX11_lawTells 131 = .ok (.iload 4, 2) := by decide +kernel
theorem dX11_lawTells_133 : decode cX11_lawTells 133 = .ok (.iaload, 1) := by decide +kernel
theorem dX11_lawTells_134 : decode cX11_lawTells 134 = .ok (.invokevirtual 306, 3) := by decide +kernel
theorem dX11_lawTells_137 : decode cX11_lawTells 137 = .ok (.istore 5, 2) := by decide +kernel
theorem dX11_lawTells_139 : decode cX11_lawTells 139 = .ok (.aload_n 0, 1) := by decide +kernel
theorem dX11_lawTells_140 : decode cX11_lawTells 140 = .ok (.getfield 277, 3) := by decide +kernel
theorem dX11_lawTells_143 : decode cX11_lawTells 143 = .ok (.ifCond .eq 7, 3) := by decide +kernel
theorem dX11_lawTells_146 : decode cX11_lawTells 146 = .ok (.iconst 0, 1) := by decide +kernel
theorem dX11_lawTells_147 : decode cX11_lawTells 147 = .ok (.goto 5, 3) := by decide +kernel
theorem dX11_lawTells_150 : decode cX11_lawTells 150 = .ok (.iload 5, 2) := by decide +kernel
theorem dX11_lawTells_152 : decode cX11_lawTells 152 = .ok (.ireturn, 1) := by decide +kernel
theorem dX11_lawTells_153 : decode cX11_lawTells 153 = .ok (.iinc 4 1, 3) := by decide +kernel
theorem dX11_lawTells_156 : decode cX11_lawTells 156 = .ok (.goto (-117), 3) := by decide +kernel
theorem dX11_lawTells_159 : decode cX11_lawTells 159 = .ok (.iconst 0, 1) := by decide +kernel
theorem dX11_lawTells_160 : decode cX11_lawTells 160 = .ok (.ireturn, 1) := by decide +kernel
theorem dX11_looks_0 : decode cX11_looks 0 = .ok (.iconst 0, 1) := by decide +kernel
theorem dX11_looks_1 : decode cX11_looks 1 = .ok (.istore_n 2, 1) := by decide +kernel
theorem dX11_looks_2 : decode cX11_looks 2 = .ok (.iload_n 2, 1) := by decide +kernel
theorem dX11_looks_3 : decode cX11_looks 3 = .ok (.bipush 9, 2) := by decide +kernel
theorem dX11_looks_5 : decode cX11_looks 5 = .ok (.if_icmp .ge 16, 3) := by decide +kernel
theorem dX11_looks_8 : decode cX11_looks 8 = .ok (.aload_n 0, 1) := by decide +kernel
theorem dX11_looks_9 : decode cX11_looks 9 = .ok (.getfield 92, 3) := by decide +kernel
theorem dX11_looks_12 : decode cX11_looks 12 = .ok (.iload_n 2, 1) := by decide +kernel
theorem dX11_looks_13 : decode cX11_looks 13 = .ok (.iconst 0, 1) := by decide +kernel
theorem dX11_looks_14 : decode cX11_looks 14 = .ok (.iastore, 1) := by decide +kernel
theorem dX11_looks_15 : decode cX11_looks 15 = .ok (.iinc 2 1, 3) := by decide +kernel
theorem dX11_looks_18 : decode cX11_looks 18 = .ok (.goto (-16), 3) := by decide +kernel
theorem dX11_looks_21 : decode cX11_looks 21 = .ok (.aload_n 0, 1) := by decide +kernel
theorem dX11_looks_22 : decode cX11_looks 22 = .ok (.getfield 92, 3) := by decide +kernel
theorem dX11_looks_25 : decode cX11_looks 25 = .ok (.iconst 5, 1) := by decide +kernel
theorem dX11_looks_26 : decode cX11_looks 26 = .ok (.aload_n 0, 1) := by decide +kernel
theorem dX11_looks_27 : decode cX11_looks 27 = .ok (.getfield 101, 3) := by decide +kernel
theorem dX11_looks_30 : decode cX11_looks 30 = .ok (.bipush 27, 2) := by decide +kernel
theorem dX11_looks_32 : decode cX11_looks 32 = .ok (.iaload, 1) := by decide +kernel
theorem dX11_looks_33 : decode cX11_looks 33 = .ok (.iastore, 1) := by decide +kernel
theorem dX11_looks_34 : decode cX11_looks 34 = .ok (.iload_n 1, 1) := by decide +kernel
theorem dX11_looks_35 : decode cX11_looks 35 = .ok (.ifCond .ge 4, 3) := by decide +kernel
theorem dX11_looks_38 : decode cX11_looks 38 = .ok (.return_, 1) := by decide +kernel
theorem dX11_looks_39 : decode cX11_looks 39 = .ok (.aload_n 0, 1) := by decide +kernel
theorem dX11_looks_40 : decode cX11_looks 40 = .ok (.getfield 92, 3) := by decide +kernel
theorem dX11_looks_43 : decode cX11_looks 43 = .ok (.iconst 2, 1) := by decide +kernel
theorem dX11_looks_44 : decode cX11_looks 44 = .ok (.aload_n 0, 1) := by decide +kernel
theorem dX11_looks_45 : decode cX11_looks 45 = .ok (.getfield 52, 3) := by decide +kernel
theorem dX11_looks_48 : decode cX11_looks 48 = .ok (.bipush 6, 2) := by decide +kernel
theorem dX11_looks_50 : decode cX11_looks 50 = .ok (.aload_n 0, 1) := by decide +kernel
theorem dX11_looks_51 : decode cX11_looks 51 = .ok (.getfield 215, 3) := by decide +kernel
theorem dX11_looks_54 : decode cX11_looks 54 = .ok (.imul, 1) := by decide +kernel
theorem dX11_looks_55 : decode cX11_looks 55 = .ok (.iload_n 1, 1) := by decide +kernel
theorem dX11_looks_56 : decode cX11_looks 56 = .ok (.iadd, 1) := by decide +kernel
theorem dX11_looks_57 : decode cX11_looks 57 = .ok (.iaload, 1) := by decide +kernel
theorem dX11_looks_58 : decode cX11_looks 58 = .ok (.iastore, 1) := by decide +kernel
theorem dX11_looks_59 : decode cX11_looks 59 = .ok (.aload_n 0, 1) := by decide +kernel
theorem dX11_looks_60 : decode cX11_looks 60 = .ok (.getfield 92, 3) := by decide +kernel
theorem dX11_looks_63 : decode cX11_looks 63 = .ok (.iconst 3, 1) := by decide +kernel
theorem dX11_looks_64 : decode cX11_looks 64 = .ok (.aload_n 0, 1) := by decide +kernel
theorem dX11_looks_65 : decode cX11_looks 65 = .ok (.getfield 55, 3) := by decide +kernel
theorem dX11_looks_68 : decode cX11_looks 68 = .ok (.bipush 6, 2) := by decide +kernel
theorem dX11_looks_70 : decode cX11_looks 70 = .ok (.aload_n 0, 1) := by decide +kernel
theorem dX11_looks_71 : decode cX11_looks 71 = .ok (.getfield 215, 3) := by decide +kernel
theorem dX11_looks_74 : decode cX11_looks 74 = .ok (.imul, 1) := by decide +kernel
theorem dX11_looks_75 : decode cX11_looks 75 = .ok (.iload_n 1, 1) := by decide +kernel
theorem dX11_looks_76 : decode cX11_looks 76 = .ok (.iadd, 1) := by decide +kernel
theorem dX11_looks_77 : decode cX11_looks 77 = .ok (.iaload, 1) := by decide +kernel
theorem dX11_looks_78 : decode cX11_looks 78 = .ok (.iastore, 1) := by decide +kernel
theorem dX11_looks_79 : decode cX11_looks 79 = .ok (.aload_n 0, 1) := by decide +kernel
theorem dX11_looks_80 : decode cX11_looks 80 = .ok (.getfield 92, 3) := by decide +kernel
theorem dX11_looks_83 : decode cX11_looks 83 = .ok (.bipush 6, 2) := by decide +kernel
theorem dX11_looks_85 : decode cX11_looks 85 = .ok (.iload_n 1, 1) := by decide +kernel
theorem dX11_looks_86 : decode cX11_looks 86 = .ok (.iastore, 1) := by decide +kernel
theorem dX11_looks_87 : decode cX11_looks 87 = .ok (.aload_n 0, 1) := by decide +kernel
theorem dX11_looks_88 : decode cX11_looks 88 = .ok (.getfield 92, 3) := by decide +kernel
theorem dX11_looks_91 : decode cX11_looks 91 = .ok (.bipush 8, 2) := by decide +kernel
theorem dX11_looks_93 : decode cX11_looks 93 = .ok (.aload_n 0, 1) := by decide +kernel
theorem dX11_looks_94 : decode cX11_looks 94 = .ok (.getfield 101, 3) := by decide +kernel
theorem dX11_looks_97 : decode cX11_looks 97 = .ok (.bipush 21, 2) := by decide +kernel
theorem dX11_looks_99 : decode cX11_looks 99 = .ok (.iload_n 1, 1) := by decide +kernel
theorem dX11_looks_100 : decode cX11_looks 100 = .ok (.iadd, 1) := by decide +kernel
theorem dX11_looks_101 : decode cX11_looks 101 = .ok (.iaload, 1) := by decide +kernel
theorem dX11_looks_102 : decode cX11_looks 102 = .ok (.iastore, 1) := by decide +kernel
theorem dX11_looks_103 : decode cX11_looks 103 = .ok (.return_, 1) := by decide +kernel
set_option maxRecDepth 20000 in
theorem ggX11_looksOver_X11_mayAt : GoodIn wsX11_looksOver wsX11_mayAt := goodIn_r _ [7, 2, 8, 9, 10, 6, 11, 12, 13, 17, 18, 19, 20, 21, 22, 23, 24, 25, 26, 27, 28, 29, 30, 31, 32, 33, 34, 35, 36, 37, 38, 39, 40, 41, 42, 43, 44, 45, 46, 47, 48, 49, 50, 51, 52, 53, 54, 55, 56, 57, 58, 59, 60, 61, 62, 63, 64, 65, 66, 67, 68, 69, 70, 71, 72, 73, 74] (by decide +kernel) (by decide +kernel)
set_option maxRecDepth 20000 in
theorem gX11_looksOver_X11_mayAt : GoodIn wsX11_looksOver (wsV RX11 309 RX11 yX11_mayAt wsX11_mayAt) := goodIn_app (goodIn_of _ (by decide +kernel)) ggX11_looksOver_X11_mayAt
set_option maxRecDepth 20000 in
theorem ggX11_looksOver_X11_bits : GoodIn wsX11_looksOver wsX11_bits := goodIn_r _ [16] (by decide +kernel) (by decide +kernel)
set_option maxRecDepth 20000 in
theorem gX11_looksOver_X11_bits : GoodIn wsX11_looksOver (va_wsS RX11 312 yX11_bits wsX11_bits) := goodIn_app (goodIn_of _ (by decide +kernel)) ggX11_looksOver_X11_bits
theorem dX11_looksOver_0 : decode cX11_looksOver 0 = .ok (.aload_n 0, 1) := by decide +kernel
theorem dX11_looksOver_1 : decode cX11_looksOver 1 = .ok (.getfield 92, 3) := by decide +kernel
theorem dX11_looksOver_4 : decode cX11_looksOver 4 = .ok (.iconst 0, 1) := by decide +kernel
theorem dX11_looksOver_5 : decode cX11_looksOver 5 = .ok (.iload_n 1, 1) := by decide +kernel
theorem dX11_looksOver_6 : decode cX11_looksOver 6 = .ok (.iastore, 1) := by decide +kernel
theorem dX11_looksOver_7 : decode cX11_looksOver 7 = .ok (.aload_n 0, 1) := by decide +kernel
theorem dX11_looksOver_8 : decode cX11_looksOver 8 = .ok (.getfield 92, 3) := by decide +kernel
theorem dX11_looksOver_11 : decode cX11_looksOver 11 = .ok (.iconst 4, 1) := by decide +kernel
theorem dX11_looksOver_12 : decode cX11_looksOver 12 = .ok (.aload_n 0, 1) := by decide +kernel
theorem dX11_looksOver_13 : decode cX11_looksOver 13 = .ok (.iload_n 1, 1) := by decide +kernel
theorem dX11_looksOver_14 : decode cX11_looksOver 14 = .ok (.invokevirtual 309, 3) := by decide +kernel
theorem dX11_looksOver_17 : decode cX11_looksOver 17 = .ok (.invokestatic 312, 3) := by decide +kernel
theorem dX11_looksOver_20 : decode cX11_looksOver 20 = .ok (.iastore, 1) := by decide +kernel
theorem dX11_looksOver_21 : decode cX11_looksOver 21 = .ok (.aload_n 0, 1) := by decide +kernel
theorem dX11_looksOver_22 : decode cX11_looksOver 22 = .ok (.getfield 92, 3) := by decide +kernel
theorem dX11_looksOver_25 : decode cX11_looksOver 25 = .ok (.bipush 7, 2) := by decide +kernel
theorem dX11_looksOver_27 : decode cX11_looksOver 27 = .ok (.aload_n 0, 1) := by decide +kernel
theorem dX11_looksOver_28 : decode cX11_looksOver 28 = .ok (.getfield 101, 3) := by decide +kernel
theorem dX11_looksOver_31 : decode cX11_looksOver 31 = .ok (.iload_n 1, 1) := by decide +kernel
theorem dX11_looksOver_32 : decode cX11_looksOver 32 = .ok (.iaload, 1) := by decide +kernel
theorem dX11_looksOver_33 : decode cX11_looksOver 33 = .ok (.invokestatic 312, 3) := by decide +kernel
theorem dX11_looksOver_36 : decode cX11_looksOver 36 = .ok (.iastore, 1) := by decide +kernel
theorem dX11_looksOver_37 : decode cX11_looksOver 37 = .ok (.return_, 1) := by decide +kernel
set_option maxRecDepth 20000 in
theorem ggX11_needsOf_X11_looks : GoodIn wsX11_needsOf wsX11_looks := goodIn_r _ [6, 1, 7, 8, 9, 10, 49, 50, 51, 52, 53, 54, 55, 56, 57, 58, 59, 60, 61, 62, 63, 64, 65, 66, 67, 68, 69, 70, 71, 72, 73, 74, 75, 76, 77, 78, 79, 80, 81, 82, 83, 84, 85, 86, 87, 88, 89, 90, 91, 92, 93, 94, 95, 96, 97, 98, 99, 100, 101, 102, 103, 104, 105, 106] (by decide +kernel) (by decide +kernel)
set_option maxRecDepth 20000 in
theorem gX11_needsOf_X11_looks : GoodIn wsX11_needsOf (wsV RX11 315 RX11 yX11_looks wsX11_looks) := goodIn_app (goodIn_of _ (by decide +kernel)) ggX11_needsOf_X11_looks
set_option maxRecDepth 20000 in
theorem ggX11_needsOf_X11_looksOver : GoodIn wsX11_needsOf wsX11_looksOver := goodIn_r _ [14, 1, 7, 15, 16, 17, 5, 18, 19, 20, 21, 22, 23, 9, 24, 25, 26, 49, 50, 51, 52, 53, 54, 55, 56, 57, 58, 59, 60, 61, 62, 63, 64, 65, 66, 67, 68, 69, 70, 71, 72, 73, 74, 75, 76, 77, 78, 79, 80, 81, 82, 83, 84, 85, 86, 87, 88, 89, 90, 91, 92, 93, 94, 95, 96, 97, 98, 99, 100, 101, 102, 103, 104, 105, 106] (by decide +kernel) (by decide +kernel)
set_option maxRecDepth 20000 in
theorem gX11_needsOf_X11_looksOver : GoodIn wsX11_needsOf (wsV RX11 318 RX11 yX11_looksOver wsX11_looksOver) := goodIn_app (goodIn_of _ (by decide +kernel)) ggX11_needsOf_X11_looksOver
set_option maxRecDepth 20000 in
theorem ggX11_needsOf_X11_oddsAt : GoodIn wsX11_needsOf wsX11_oddsAt := goodIn_r _ [22, 23, 9, 49, 50, 51, 52, 53, 54, 55, 56, 57, 58, 59, 60, 61, 62, 63, 64, 65, 66, 67, 68, 69, 70, 71, 72, 73, 74, 75, 76, 77, 78, 79, 80, 81, 82, 83, 84, 85, 86, 87, 88, 89, 90, 91, 92, 93, 94, 95, 96, 97, 98, 99, 100, 101, 102, 103, 104, 105, 106] (by decide +kernel) (by decide +kernel)
set_option maxRecDepth 20000 in
theorem gX11_needsOf_X11_oddsAt : GoodIn wsX11_needsOf (wsV RX11 297 RX11 yX11_oddsAt wsX11_oddsAt) := goodIn_app (goodIn_of _ (by decide +kernel)) ggX11_needsOf_X11_oddsAt
set_option maxRecDepth 20000 in
theorem ggX11_needsOf_X11_lawTells : GoodIn wsX11_needsOf wsX11_lawTells := goodIn_r _ [30, 9, 31, 32, 33, 34, 35, 36, 37, 38, 39, 40, 41, 5, 42, 43, 44, 45, 1, 49, 50, 51, 52, 53, 54, 55, 56, 57, 58, 59, 60, 61, 62, 63, 64, 65, 66, 67, 68, 69, 70, 71, 72, 73, 74, 75, 76, 77, 78, 79, 80, 81, 82, 83, 84, 85, 86, 87, 88, 89, 90, 91, 92, 93, 94, 95, 96, 97, 98, 99, 100, 101, 102, 103, 104, 105, 106] (by decide +kernel) (by decide +kernel)
set_option maxRecDepth 20000 in
theorem gX11_needsOf_X11_lawTells : GoodIn wsX11_needsOf (wsV RX11 321 RX11 yX11_lawTells wsX11_lawTells) := goodIn_app (goodIn_of _ (by decide +kernel)) ggX11_needsOf_X11_lawTells
set_option maxRecDepth 20000 in
theorem ggX11_needsOf_X11_within : GoodIn wsX11_needsOf wsX11_within := goodIn_r _ [48] (by decide +kernel) (by decide +kernel)
set_option maxRecDepth 20000 in
theorem gX11_needsOf_X11_within : GoodIn wsX11_needsOf (va_wsS RX11 324 yX11_within wsX11_within) := goodIn_app (goodIn_of _ (by decide +kernel)) ggX11_needsOf_X11_within
theorem dX11_needsOf_0 : decode cX11_needsOf 0 = .ok (.aload_n 0, 1) := by decide +kernel
theorem dX11_needsOf_1 : decode cX11_needsOf 1 = .ok (.iload_n 1, 1) := by decide +kernel
theorem dX11_needsOf_2 : decode cX11_needsOf 2 = .ok (.invokevirtual 315, 3) := by decide +kernel
theorem dX11_needsOf_5 : decode cX11_needsOf 5 = .ok (.aload_n 0, 1) := by decide +kernel
theorem dX11_needsOf_6 : decode cX11_needsOf 6 = .ok (.iload_n 2, 1) := by decide +kernel
theorem dX11_needsOf_7 : decode cX11_needsOf 7 = .ok (.invokevirtual 318, 3) := by decide +kernel
theorem dX11_needsOf_10 : decode cX11_needsOf 10 = .ok (.aload_n 0, 1) := by decide +kernel
theorem dX11_needsOf_11 : decode cX11_needsOf 11 = .ok (.getfield 92, 3) := by decide +kernel
theorem dX11_needsOf_14 : decode cX11_needsOf 14 = .ok (.iconst 1, 1) := by decide +kernel
theorem dX11_needsOf_15 : decode cX11_needsOf 15 = .ok (.aload_n 0, 1) := by decide +kernel
theorem dX11_needsOf_16 : decode cX11_needsOf 16 = .ok (.iload_n 2, 1) := by decide +kernel
theorem dX11_needsOf_17 : decode cX11_needsOf 17 = .ok (.iload_n 3, 1) := by decide +kernel
theorem dX11_needsOf_18 : decode cX11_needsOf 18 = .ok (.invokevirtual 297, 3) := by decide +kernel
theorem dX11_needsOf_21 : decode cX11_needsOf 21 = .ok (.iastore, 1) := by decide +kernel
theorem dX11_needsOf_22 : decode cX11_needsOf 22 = .ok (.aload_n 0, 1) := by decide +kernel
theorem dX11_needsOf_23 : decode cX11_needsOf 23 = .ok (.iconst 0, 1) := by decide +kernel
theorem dX11_needsOf_24 : decode cX11_needsOf 24 = .ok (.aload_n 0, 1) := by decide +kernel
theorem dX11_needsOf_25 : decode cX11_needsOf 25 = .ok (.getfield 92, 3) := by decide +kernel
theorem dX11_needsOf_28 : decode cX11_needsOf 28 = .ok (.iconst 2, 1) := by decide +kernel
theorem dX11_needsOf_29 : decode cX11_needsOf 29 = .ok (.iaload, 1) := by decide +kernel
theorem dX11_needsOf_30 : decode cX11_needsOf 30 = .ok (.invokevirtual 321, 3) := by decide +kernel
theorem dX11_needsOf_33 : decode cX11_needsOf 33 = .ok (.iconst 0, 1) := by decide +kernel
theorem dX11_needsOf_34 : decode cX11_needsOf 34 = .ok (.bipush 9, 2) := by decide +kernel
theorem dX11_needsOf_36 : decode cX11_needsOf 36 = .ok (.invokestatic 324, 3) := by decide +kernel
theorem dX11_needsOf_39 : decode cX11_needsOf 39 = .ok (.ireturn, 1) := by decide +kernel
set_option maxRecDepth 20000 in
theorem ggX11_faresOf_X11_looks : GoodIn wsX11_faresOf wsX11_looks := goodIn_r _ [5, 6, 7, 8, 9, 10, 33, 34, 35, 36, 37, 38, 39, 40, 41, 42, 43, 44, 45, 46, 47, 48, 49, 50, 51, 52, 53, 54, 55, 56, 57, 58, 59, 60, 61, 62, 63, 64, 65, 66, 67, 68, 69, 70, 71, 72, 73, 74, 75, 76, 77, 78, 79, 80, 81, 82, 83, 84, 85, 86, 87, 88, 89, 90] (by decide +kernel) (by decide +kernel)
set_option maxRecDepth 20000 in
theorem gX11_faresOf_X11_looks : GoodIn wsX11_faresOf (wsV RX11 315 RX11 yX11_looks wsX11_looks) := goodIn_app (goodIn_of _ (by decide +kernel)) ggX11_faresOf_X11_looks
set_option maxRecDepth 20000 in
theorem ggX11_faresOf_X11_lawTells : GoodIn wsX11_faresOf wsX11_lawTells := goodIn_r _ [14, 9, 15, 16, 17, 18, 19, 20, 21, 22, 23, 24, 25, 4, 26, 27, 28, 29, 6, 33, 34, 35, 36, 37, 38, 39, 40, 41, 42, 43, 44, 45, 46, 47, 48, 49, 50, 51, 52, 53, 54, 55, 56, 57, 58, 59, 60, 61, 62, 63, 64, 65, 66, 67, 68, 69, 70, 71, 72, 73, 74, 75, 76, 77, 78, 79, 80, 81, 82, 83, 84, 85, 86, 87, 88, 89, 90] (by decide +kernel) (by decide +kernel)
set_option maxRecDepth 20000 in
theorem gX11_faresOf_X11_lawTells : GoodIn wsX11_faresOf (wsV RX11 321 RX11 yX11_lawTells wsX11_lawTells) := goodIn_app (goodIn_of _ (by decide +kernel)) ggX11_faresOf_X11_lawTells
set_option maxRecDepth 20000 in
theorem ggX11_faresOf_X11_within : GoodIn wsX11_faresOf wsX11_within := goodIn_r _ [32] (by decide +kernel) (by decide +kernel)
set_option maxRecDepth 20000 in
theorem gX11_faresOf_X11_within : GoodIn wsX11_faresOf (va_wsS RX11 324 yX11_within wsX11_within) := goodIn_app (goodIn_of _ (by decide +kernel)) ggX11_faresOf_X11_within
theorem dX11_faresOf_0 : decode cX11_faresOf 0 = .ok (.aload_n 0, 1) := by decide +kernel
theorem dX11_faresOf_1 : decode cX11_faresOf 1 = .ok (.iload_n 1, 1) := by decide +kernel
theorem dX11_faresOf_2 : decode cX11_faresOf 2 = .ok (.invokevirtual 315, 3) := by decide +kernel
theorem dX11_faresOf_5 : decode cX11_faresOf 5 = .ok (.aload_n 0, 1) := by decide +kernel
theorem dX11_faresOf_6 : decode cX11_faresOf 6 = .ok (.iconst 1, 1) := by decide +kernel
theorem dX11_faresOf_7 : decode cX11_faresOf 7 = .ok (.iconst 1, 1) := by decide +kernel
theorem dX11_faresOf_8 : decode cX11_faresOf 8 = .ok (.invokevirtual 321, 3) := by decide +kernel
theorem dX11_faresOf_11 : decode cX11_faresOf 11 = .ok (.iconst 0, 1) := by decide +kernel
theorem dX11_faresOf_12 : decode cX11_faresOf 12 = .ok (.bipush 99, 2) := by decide +kernel
theorem dX11_faresOf_14 : decode cX11_faresOf 14 = .ok (.invokestatic 324, 3) := by decide +kernel
theorem dX11_faresOf_17 : decode cX11_faresOf 17 = .ok (.ireturn, 1) := by decide +kernel
set_option maxRecDepth 20000 in
theorem ggX11_doesDare_X11_looks : GoodIn wsX11_doesDare wsX11_looks := goodIn_r _ [5, 6, 7, 8, 9, 10, 30, 31, 32, 33, 34, 35, 36, 37, 38, 39, 40, 41, 42, 43, 44, 45, 46, 47, 48, 49, 50, 51, 52, 53, 54, 55, 56, 57, 58, 59, 60, 61, 62, 63, 64, 65, 66, 67, 68, 69, 70, 71, 72, 73, 74, 75, 76, 77, 78, 79, 80, 81, 82, 83, 84, 85, 86, 87] (by decide +kernel) (by decide +kernel)
set_option maxRecDepth 20000 in
theorem gX11_doesDare_X11_looks : GoodIn wsX11_doesDare (wsV RX11 315 RX11 yX11_looks wsX11_looks) := goodIn_app (goodIn_of _ (by decide +kernel)) ggX11_doesDare_X11_looks
set_option maxRecDepth 20000 in
theorem ggX11_doesDare_X11_lawTells : GoodIn wsX11_doesDare wsX11_lawTells := goodIn_r _ [14, 9, 15, 16, 17, 18, 19, 20, 21, 22, 23, 24, 25, 4, 26, 27, 28, 29, 6, 30, 31, 32, 33, 34, 35, 36, 37, 38, 39, 40, 41, 42, 43, 44, 45, 46, 47, 48, 49, 50, 51, 52, 53, 54, 55, 56, 57, 58, 59, 60, 61, 62, 63, 64, 65, 66, 67, 68, 69, 70, 71, 72, 73, 74, 75, 76, 77, 78, 79, 80, 81, 82, 83, 84, 85, 86, 87] (by decide +kernel) (by decide +kernel)
set_option maxRecDepth 20000 in
theorem gX11_doesDare_X11_lawTells : GoodIn wsX11_doesDare (wsV RX11 321 RX11 yX11_lawTells wsX11_lawTells) := goodIn_app (goodIn_of _ (by decide +kernel)) ggX11_doesDare_X11_lawTells
theorem dX11_doesDare_0 : decode cX11_doesDare 0 = .ok (.aload_n 0, 1) := by decide +kernel
theorem dX11_doesDare_1 : decode cX11_doesDare 1 = .ok (.iload_n 1, 1) := by decide +kernel
theorem dX11_doesDare_2 : decode cX11_doesDare 2 = .ok (.invokevirtual 315, 3) := by decide +kernel
theorem dX11_doesDare_5 : decode cX11_doesDare 5 = .ok (.aload_n 0, 1) := by decide +kernel
theorem dX11_doesDare_6 : decode cX11_doesDare 6 = .ok (.iconst 2, 1) := by decide +kernel
theorem dX11_doesDare_7 : decode cX11_doesDare 7 = .ok (.iconst 1, 1) := by decide +kernel
theorem dX11_doesDare_8 : decode cX11_doesDare 8 = .ok (.invokevirtual 321, 3) := by decide +kernel
theorem dX11_doesDare_11 : decode cX11_doesDare 11 = .ok (.ifCond .le 7, 3) := by decide +kernel
theorem dX11_doesDare_14 : decode cX11_doesDare 14 = .ok (.iconst 1, 1) := by decide +kernel
theorem dX11_doesDare_15 : decode cX11_doesDare 15 = .ok (.goto 4, 3) := by decide +kernel
theorem dX11_doesDare_18 : decode cX11_doesDare 18 = .ok (.iconst 0, 1) := by decide +kernel
theorem dX11_doesDare_19 : decode cX11_doesDare 19 = .ok (.ireturn, 1) := by decide +kernel
set_option maxRecDepth 20000 in
theorem ggX11_shiftsOf_X11_looks : GoodIn wsX11_shiftsOf wsX11_looks := goodIn_r _ [5, 6, 7, 8, 9, 10, 49, 50, 51, 52, 53, 54, 55, 56, 57, 58, 59, 60, 61, 62, 63, 64, 65, 66, 67, 68, 69, 70, 71, 72, 73, 74, 75, 76, 77, 78, 79, 80, 81, 82, 83, 84, 85, 86, 87, 88, 89, 90, 91, 92, 93, 94, 95, 96, 97, 98, 99, 100, 101, 102, 103, 104, 105, 106] (by decide +kernel) (by decide +kernel)
set_option maxRecDepth 20000 in
theorem gX11_shiftsOf_X11_looks : GoodIn wsX11_shiftsOf (wsV RX11 315 RX11 yX11_looks wsX11_looks) := goodIn_app (goodIn_of _ (by decide +kernel)) ggX11_shiftsOf_X11_looks
set_option maxRecDepth 20000 in
theorem ggX11_shiftsOf_X11_looksOver : GoodIn wsX11_shiftsOf wsX11_looksOver := goodIn_r _ [14, 6, 7, 15, 16, 17, 4, 18, 19, 20, 21, 22, 23, 9, 24, 25, 26, 49, 50, 51, 52, 53, 54, 55, 56, 57, 58, 59, 60, 61, 62, 63, 64, 65, 66, 67, 68, 69, 70, 71, 72, 73, 74, 75, 76, 77, 78, 79, 80, 81, 82, 83, 84, 85, 86, 87, 88, 89, 90, 91, 92, 93, 94, 95, 96, 97, 98, 99, 100, 101, 102, 103, 104, 105, 106] (by decide +kernel) (by decide +kernel)
set_option maxRecDepth 20000 in
theorem gX11_shiftsOf_X11_looksOver : GoodIn wsX11_shiftsOf (wsV RX11 318 RX11 yX11_looksOver wsX11_looksOver) := goodIn_app (goodIn_of _ (by decide +kernel)) ggX11_shiftsOf_X11_looksOver
set_option maxRecDepth 20000 in
theorem ggX11_shiftsOf_X11_lawTells : GoodIn wsX11_shiftsOf wsX11_lawTells := goodIn_r _ [30, 9, 31, 32, 33, 34, 35, 36, 37, 38, 39, 40, 41, 4, 42, 43, 44, 45, 6, 49, 50, 51, 52, 53, 54, 55, 56, 57, 58, 59, 60, 61, 62, 63, 64, 65, 66, 67, 68, 69, 70, 71, 72, 73, 74, 75, 76, 77, 78, 79, 80, 81, 82, 83, 84, 85, 86, 87, 88, 89, 90, 91, 92, 93, 94, 95, 96, 97, 98, 99, 100, 101, 102, 103, 104, 105, 106] (by decide +kernel) (by decide +kernel)
set_option maxRecDepth 20000 in
theorem gX11_shiftsOf_X11_lawTells : GoodIn wsX11_shiftsOf (wsV RX11 321 RX11 yX11_lawTells wsX11_lawTells) := goodIn_app (goodIn_of _ (by decide +kernel)) ggX11_shiftsOf_X11_lawTells
set_option maxRecDepth 20000 in
theorem ggX11_shiftsOf_X11_within : GoodIn wsX11_shiftsOf wsX11_within := goodIn_r _ [48] (by decide +kernel) (by decide +kernel)
set_option maxRecDepth 20000 in
theorem gX11_shiftsOf_X11_within : GoodIn wsX11_shiftsOf (va_wsS RX11 324 yX11_within wsX11_within) := goodIn_app (goodIn_of _ (by decide +kernel)) ggX11_shiftsOf_X11_within
theorem dX11_shiftsOf_0 : decode cX11_shiftsOf 0 = .ok (.aload_n 0, 1) := by decide +kernel
theorem dX11_shiftsOf_1 : decode cX11_shiftsOf 1 = .ok (.iconst (-1), 1) := by decide +kernel
theorem dX11_shiftsOf_2 : decode cX11_shiftsOf 2 = .ok (.invokevirtual 315, 3) := by decide +kernel
theorem dX11_shiftsOf_5 : decode cX11_shiftsOf 5 = .ok (.aload_n 0, 1) := by decide +kernel
theorem dX11_shiftsOf_6 : decode cX11_shiftsOf 6 = .ok (.iload_n 1, 1) := by decide +kernel
theorem dX11_shiftsOf_7 : decode cX11_shiftsOf 7 = .ok (.invokevirtual 318, 3) := by decide +kernel
theorem dX11_shiftsOf_10 : decode cX11_shiftsOf 10 = .ok (.aload_n 0, 1) := by decide +kernel
theorem dX11_shiftsOf_11 : decode cX11_shiftsOf 11 = .ok (.iconst 3, 1) := by decide +kernel
theorem dX11_shiftsOf_12 : decode cX11_shiftsOf 12 = .ok (.iconst 0, 1) := by decide +kernel
theorem dX11_shiftsOf_13 : decode cX11_shiftsOf 13 = .ok (.invokevirtual 321, 3) := by decide +kernel
theorem dX11_shiftsOf_16 : decode cX11_shiftsOf 16 = .ok (.iconst 0, 1) := by decide +kernel
theorem dX11_shiftsOf_17 : decode cX11_shiftsOf 17 = .ok (.bipush 100, 2) := by decide +kernel
theorem dX11_shiftsOf_19 : decode cX11_shiftsOf 19 = .ok (.invokestatic 324, 3) := by decide +kernel
theorem dX11_shiftsOf_22 : decode cX11_shiftsOf 22 = .ok (.ireturn, 1) := by decide +kernel
set_option maxRecDepth 20000 in
theorem ggX11_doesBear_X11_oddsAt : GoodIn wsX11_doesBear wsX11_oddsAt := goodIn_r _ [5, 6, 7, 53, 54, 55, 56, 57, 58, 59, 60, 61, 62, 63, 64, 65, 66, 67, 68, 69, 70, 71, 72, 73, 74, 75, 76, 77, 78, 79, 80, 81, 82, 83, 84, 85, 86, 87, 88, 89, 90, 91, 92, 93, 94, 95, 96, 97, 98, 99, 100, 101, 102, 103, 104, 105, 106, 107, 108, 109, 110] (by decide +kernel) (by decide +kernel)
set_option maxRecDepth 20000 in
theorem gX11_doesBear_X11_oddsAt : GoodIn wsX11_doesBear (wsV RX11 297 RX11 yX11_oddsAt wsX11_oddsAt) := goodIn_app (goodIn_of _ (by decide +kernel)) ggX11_doesBear_X11_oddsAt
set_option maxRecDepth 20000 in
theorem ggX11_doesBear_X11_needsOf : GoodIn wsX11_doesBear wsX11_needsOf := goodIn_r _ [11, 12, 13, 14, 15, 4, 16, 17, 18, 7, 19, 20, 21, 22, 23, 24, 25, 26, 27, 1, 2, 3, 5, 6, 28, 29, 30, 31, 32, 33, 34, 35, 36, 37, 38, 39, 40, 41, 42, 43, 44, 45, 46, 47, 48, 49, 50, 51, 52, 53, 54, 55, 56, 57, 58, 59, 60, 61, 62, 63, 64, 65, 66, 67, 68, 69, 70, 71, 72, 73, 74, 75, 76, 77, 78, 79, 80, 81, 82, 83, 84, 85, 86, 87, 88, 89, 90, 91, 92, 93, 94, 95, 96, 97, 98, 99, 100, 101, 102, 103, 104, 105, 106, 107, 108, 109, 110] (by decide +kernel) (by decide +kernel)
set_option maxRecDepth 20000 in
theorem gX11_doesBear_X11_needsOf : GoodIn wsX11_doesBear (wsV RX11 327 RX11 yX11_needsOf wsX11_needsOf) := goodIn_app (goodIn_of _ (by decide +kernel)) ggX11_doesBear_X11_needsOf
theorem dX11_doesBear_0 : decode cX11_doesBear 0 = .ok (.aload_n 0, 1) := by decide +kernel
theorem dX11_doesBear_1 : decode cX11_doesBear 1 = .ok (.iload_n 2, 1) := by decide +kernel
theorem dX11_doesBear_2 : decode cX11_doesBear 2 = .ok (.iload_n 3, 1) := by decide +kernel
theorem dX11_doesBear_3 : decode cX11_doesBear 3 = .ok (.invokevirtual 297, 3) := by decide +kernel
theorem dX11_doesBear_6 : decode cX11_doesBear 6 = .ok (.aload_n 0, 1) := by decide +kernel
theorem dX11_doesBear_7 : decode cX11_doesBear 7 = .ok (.iload_n 1, 1) := by decide +kernel
theorem dX11_doesBear_8 : decode cX11_doesBear 8 = .ok (.iload_n 2, 1) := by decide +kernel
theorem dX11_doesBear_9 : decode cX11_doesBear 9 = .ok (.iload_n 3, 1) := by decide +kernel
theorem dX11_doesBear_10 : decode cX11_doesBear 10 = .ok (.invokevirtual 327, 3) := by decide +kernel
theorem dX11_doesBear_13 : decode cX11_doesBear 13 = .ok (.if_icmp .lt 7, 3) := by decide +kernel
theorem dX11_doesBear_16 : decode cX11_doesBear 16 = .ok (.iconst 1, 1) := by decide +kernel
theorem dX11_doesBear_17 : decode cX11_doesBear 17 = .ok (.goto 4, 3) := by decide +kernel
theorem dX11_doesBear_20 : decode cX11_doesBear 20 = .ok (.iconst 0, 1) := by decide +kernel
theorem dX11_doesBear_21 : decode cX11_doesBear 21 = .ok (.ireturn, 1) := by decide +kernel
set_option maxRecDepth 20000 in
theorem ggX11_bearsBy_X11_thingAt : GoodIn wsX11_bearsBy wsX11_thingAt := goodIn_r _ [7, 8, 63, 64, 65, 66, 67, 68, 69, 70, 71, 72, 73, 74, 75, 76, 77, 78, 79, 80, 81, 82, 83, 84, 85, 86, 87, 88, 89, 90, 91, 92, 93, 94, 95, 96, 97, 98, 99, 100, 101, 102, 103, 104, 105, 106, 107, 108, 109, 110, 111, 112, 113, 114, 115, 116, 117, 118, 119, 120] (by decide +kernel) (by decide +kernel)
set_option maxRecDepth 20000 in
theorem gX11_bearsBy_X11_thingAt : GoodIn wsX11_bearsBy (wsV RX11 330 RX11 yX11_thingAt wsX11_thingAt) := goodIn_app (goodIn_of _ (by decide +kernel)) ggX11_bearsBy_X11_thingAt
set_option maxRecDepth 20000 in
theorem ggX11_bearsBy_X11_doesBear : GoodIn wsX11_bearsBy wsX11_doesBear := goodIn_r _ [12, 13, 14, 15, 6, 16, 17, 2, 18, 19, 20, 21, 22, 23, 24, 25, 26, 27, 28, 29, 30, 31, 32, 33, 34, 35, 36, 37, 38, 39, 40, 41, 42, 43, 44, 45, 46, 47, 48, 49, 50, 51, 52, 53, 54, 55, 56, 57, 58, 59, 60, 61, 62, 63, 64, 65, 66, 67, 68, 69, 70, 71, 72, 73, 74, 75, 76, 77, 78, 79, 80, 81, 82, 83, 84, 85, 86, 87, 88, 89, 90, 91, 92, 93, 94, 95, 96, 97, 98, 99, 100, 101, 102, 103, 104, 105, 106, 107, 108, 109, 110, 111, 112, 113, 114, 115, 116, 117, 118, 119, 120] (by decide +kernel) (by decide +kernel)
set_option maxRecDepth 20000 in
theorem gX11_bearsBy_X11_doesBear : GoodIn wsX11_bearsBy (wsV RX11 333 RX11 yX11_doesBear wsX11_doesBear) := goodIn_app (goodIn_of _ (by decide +kernel)) ggX11_bearsBy_X11_doesBear
theorem dX11_bearsBy_0 : decode cX11_bearsBy 0 = .ok (.iconst 0, 1) := by decide +kernel
theorem dX11_bearsBy_1 : decode cX11_bearsBy 1 = .ok (.istore_n 3, 1) := by decide +kernel
theorem dX11_bearsBy_2 : decode cX11_bearsBy 2 = .ok (.iload_n 3, 1) := by decide +kernel
theorem dX11_bearsBy_3 : decode cX11_bearsBy 3 = .ok (.aload_n 0, 1) := by decide +kernel
theorem dX11_bearsBy_4 : decode cX11_bearsBy 4 = .ok (.getfield 40, 3) := by decide +kernel
theorem dX11_bearsBy_7 : decode cX11_bearsBy 7 = .ok (.aload_n 0, 1) := by decide +kernel
theorem dX11_bearsBy_8 : decode cX11_bearsBy 8 = .ok (.getfield 215, 3) := by decide +kernel
theorem dX11_bearsBy_11 : decode cX11_bearsBy 11 = .ok (.iaload, 1) := by decide +kernel
theorem dX11_bearsBy_12 : decode cX11_bearsBy 12 = .ok (.if_icmp .ge 24, 3) := by decide +kernel
theorem dX11_bearsBy_15 : decode cX11_bearsBy 15 = .ok (.aload_n 0, 1) := by decide +kernel
theorem dX11_bearsBy_16 : decode cX11_bearsBy 16 = .ok (.iload_n 1, 1) := by decide +kernel
theorem dX11_bearsBy_17 : decode cX11_bearsBy 17 = .ok (.iload_n 3, 1) := by decide +kernel
theorem dX11_bearsBy_18 : decode cX11_bearsBy 18 = .ok (.aload_n 0, 1) := by decide +kernel
theorem dX11_bearsBy_19 : decode cX11_bearsBy 19 = .ok (.iload_n 2, 1) := by decide +kernel
theorem dX11_bearsBy_20 : decode cX11_bearsBy 20 = .ok (.iload_n 3, 1) := by decide +kernel
theorem dX11_bearsBy_21 : decode cX11_bearsBy 21 = .ok (.invokevirtual 330, 3) := by decide +kernel
theorem dX11_bearsBy_24 : decode cX11_bearsBy 24 = .ok (.invokevirtual 333, 3) := by decide +kernel
theorem dX11_bearsBy_27 : decode cX11_bearsBy 27 = .ok (.ifCond .eq 9, 3) := by decide +kernel
theorem dX11_bearsBy_30 : decode cX11_bearsBy 30 = .ok (.iinc 3 1, 3) := by decide +kernel
theorem dX11_bearsBy_33 : decode cX11_bearsBy 33 = .ok (.goto (-31), 3) := by decide +kernel
theorem dX11_bearsBy_36 : decode cX11_bearsBy 36 = .ok (.iload_n 3, 1) := by decide +kernel
theorem dX11_bearsBy_37 : decode cX11_bearsBy 37 = .ok (.ireturn, 1) := by decide +kernel
theorem LX11_lawTells_215 : Cond.fieldLink RX11 215 "GuessFerryModel" "live" "I" ∈ wsX11_lawTells := by decide +kernel
theorem LX11_lawTells_277 : Cond.fieldLink RX11 277 "GuessFerryModel" "isBroken" "Z" ∈ wsX11_lawTells := by decide +kernel
theorem LX11_lawTells_61 : Cond.fieldLink RX11 61 "GuessFerryModel" "lawFirst" "[I" ∈ wsX11_lawTells := by decide +kernel
theorem LX11_lawTells_64 : Cond.fieldLink RX11 64 "GuessFerryModel" "lawLast" "[I" ∈ wsX11_lawTells := by decide +kernel
theorem LX11_lawTells_67 : Cond.fieldLink RX11 67 "GuessFerryModel" "hasTest" "[Z" ∈ wsX11_lawTells := by decide +kernel
theorem LX11_lawTells_71 : Cond.fieldLink RX11 71 "GuessFerryModel" "testFrom" "[I" ∈ wsX11_lawTells := by decide +kernel
theorem LX11_lawTells_74 : Cond.fieldLink RX11 74 "GuessFerryModel" "testMid" "[I" ∈ wsX11_lawTells := by decide +kernel
theorem LX11_lawTells_77 : Cond.fieldLink RX11 77 "GuessFerryModel" "testTo" "[I" ∈ wsX11_lawTells := by decide +kernel
theorem LX11_lawTells_80 : Cond.fieldLink RX11 80 "GuessFerryModel" "termTo" "[I" ∈ wsX11_lawTells := by decide +kernel
theorem inX11_lawTells_X11 : ∀ w ∈ u_ws RX11 TX11 58, w ∈ wsX11_lawTells := fun _ h => List.mem_cons_of_mem _ (List.mem_append_right _ h)
set_option maxHeartbeats 4000000 in
set_option maxRecDepth 100000 in
theorem br_lawTells_119 {l : Launch} {dC : Nat → ClassId} {dI : Nat → Nat → Nat} {cB cI cJ cZ cS : ClassId} {h : Nat} {a : Nat → Nat} {as : List Value} {r : Int32} {s' : RS} (s : RS) (x4 : Int32) (hB : r_lawTells_119 s x4 = some (r, s')) : BlkI l yX11_lawTells wsX11_lawTells ({ frames := 1, cells := 0, slots := 0, locals := 27 }) cX11_lawTells 7 (some .int) (dC, dI) (tysA cB cI cJ cZ cS) as 119 (mwS cB cI cJ cZ h a s) [(0, .ref h), (4, .int x4)] [] (fun x u => x = r ∧ u = (mwS cB cI cJ cZ h a s')) := by
  intro p e s0 m below meth c A E H locs ls hP hD hS hl
  obtain ⟨C, hr, hlocks, hA, hK, hN⟩ := id E
  obtain ⟨hx, hb, hml, hown, hts⟩ := id C
  unfold r_lawTells_119 at hB
  refine lv_aload_n hx hb dX11_lawTells_119 rfl (lv_at hl 0 rfl) ?_
  refine lv_aload_n hx hb dX11_lawTells_120 rfl (lv_at hl 0 rfl) ?_
  refine q_get (v := .ref (a 33)) C inX11_lawTells_X11 hK hP 0 rfl rfl 33 (by decide) rfl LX11_lawTells_77 rfl dX11_lawTells_121 ?_
  refine lv_iload hx hb dX11_lawTells_124 (lv_at hl 1 rfl) ?_
  obtain ⟨g1, hB⟩ := guard_inv hB
  refine q_iald (x := (s.f 33 (Int32.toNatClampNeg x4))) C hK hP 20 1 rfl rfl (vpb_in g1) dX11_lawTells_126 rfl ?_
  refine lv_aload_n hx hb dX11_lawTells_127 rfl (lv_at hl 0 rfl) ?_
  refine q_get (v := .ref (a 34)) C inX11_lawTells_X11 hK hP 0 rfl rfl 34 (by decide) rfl LX11_lawTells_80 rfl dX11_lawTells_128 ?_
  refine lv_iload hx hb dX11_lawTells_131 (lv_at hl 1 rfl) ?_
  obtain ⟨g2, hB⟩ := guard_inv hB
  refine q_iald (x := (s.f 34 (Int32.toNatClampNeg x4))) C hK hP 21 1 rfl rfl (vpb_in g2) dX11_lawTells_133 rfl ?_
  obtain ⟨q_, s3, hc, hB⟩ := bindI_inv hB
  refine q_goiF (va_runV (As := [.int (s.f 33 (Int32.toNatClampNeg x4)), .int (s.f 34 (Int32.toNatClampNeg x4))]) (rest := []) C (cr_termOf hc _) (cwV 2 hts gX11_lawTells_X11_termOf rfl rfl rfl (by decide +kernel) ⟨Nat.le_of_ble_eq_true rfl, Nat.le_of_ble_eq_true rfl⟩) (q_preV hK hP (ci := 11) (q0 := 0) rfl rfl rfl (q_preF hN hK hP hD)) rfl rfl hl.1 rfl (lv_room (Nat.le_of_ble_eq_true rfl)) dX11_lawTells_134 ⟨Nat.le_of_ble_eq_true rfl, Nat.le_of_ble_eq_true rfl⟩) hD hS hA (fun r4 w1 H locs hw hP hD hS => ?_)
  obtain ⟨hq_, hw⟩ := hw; subst hw; subst hq_
  refine lv_istore (lv' := [(5, .int r4), (0, .ref h), (4, .int x4)]) hx hb dX11_lawTells_137 hl (by decide) rfl (fun ls hl => ?_)
  refine lv_aload_n hx hb dX11_lawTells_139 rfl (lv_at hl 1 rfl) ?_
  refine q_get (v := .int (s3.v 42)) C inX11_lawTells_X11 hK hP 0 rfl rfl 42 (by decide) rfl LX11_lawTells_277 rfl dX11_lawTells_140 ?_
  refine lv_if_eq (tgt := 150) hx hb dX11_lawTells_143 (by decide) (fun c5 => ?_) (fun c5 => ?_)
  · have hB := if_p hB c5
    refine lv_iload hx hb dX11_lawTells_150 (lv_at hl 0 rfl) ?_
    exact q_iret C hr hlocks hK hP hD hS (Nat.le_of_ble_eq_true rfl) (Nat.le_of_ble_eq_true rfl) dX11_lawTells_152 (by cases hB; exact ⟨rfl, rfl⟩)
  · have hB := if_n hB c5
    refine lv_iconst (v := 0) hx hb dX11_lawTells_146 (by decide) ?_
    refine lv_goto (tgt := 152) hx hb dX11_lawTells_147 (by decide) ?_
    exact q_iret C hr hlocks hK hP hD hS (Nat.le_of_ble_eq_true rfl) (Nat.le_of_ble_eq_true rfl) dX11_lawTells_152 (by cases hB; exact ⟨rfl, rfl⟩)
set_option maxHeartbeats 4000000 in
set_option maxRecDepth 100000 in
theorem br_lawTells_39 {l : Launch} {dC : Nat → ClassId} {dI : Nat → Nat → Nat} {cB cI cJ cZ cS : ClassId} {h : Nat} {a : Nat → Nat} {as : List Value} {r : Int32} {s' : RS} {k39 : RS → Int32 → Int32 → Option (Int32 × RS)} (hk39 : ∀ (s : RS) (x3 : Int32) (x4 : Int32), k39 s x3 x4 = some (r, s') → BlkI l yX11_lawTells wsX11_lawTells ({ frames := 1, cells := 0, slots := 0, locals := 27 }) cX11_lawTells 7 (some .int) (dC, dI) (tysA cB cI cJ cZ cS) as 39 (mwS cB cI cJ cZ h a s) [(0, .ref h), (3, .int x3), (4, .int x4)] [] (fun x u => x = r ∧ u = (mwS cB cI cJ cZ h a s'))) (s : RS) (x3 : Int32) (x4 : Int32) (hB : r_lawTells_39 k39 s x3 x4 = some (r, s')) : BlkI l yX11_lawTells wsX11_lawTells ({ frames := 1, cells := 0, slots := 0, locals := 27 }) cX11_lawTells 7 (some .int) (dC, dI) (tysA cB cI cJ cZ cS) as 39 (mwS cB cI cJ cZ h a s) [(0, .ref h), (3, .int x3), (4, .int x4)] [] (fun x u => x = r ∧ u = (mwS cB cI cJ cZ h a s')) := by
  intro p e s0 m below meth c A E H locs ls hP hD hS hl
  obtain ⟨C, hr, hlocks, hA, hK, hN⟩ := id E
  obtain ⟨hx, hb, hml, hown, hts⟩ := id C
  unfold r_lawTells_39 at hB
  refine lv_iload hx hb dX11_lawTells_39 (lv_at hl 2 rfl) ?_
  refine lv_aload_n hx hb dX11_lawTells_41 rfl (lv_at hl 0 rfl) ?_
  refine q_get (v := .ref (a 28)) C inX11_lawTells_X11 hK hP 0 rfl rfl 28 (by decide) rfl LX11_lawTells_64 rfl dX11_lawTells_42 ?_
  refine lv_iload_n hx hb dX11_lawTells_45 rfl (lv_at hl 1 rfl) ?_
  obtain ⟨g1, hB⟩ := guard_inv hB
  refine q_iald (x := (s.f 28 (Int32.toNatClampNeg x3))) C hK hP 16 1 rfl rfl (vpb_in g1) dX11_lawTells_46 rfl ?_
  refine lv_icmp_ge (tgt := 159) hx hb dX11_lawTells_47 (by decide) (fun c2 => ?_) (fun c2 => ?_)
  · have hB := if_p hB c2
    refine lv_iconst (v := 0) hx hb dX11_lawTells_159 (by decide) ?_
    exact q_iret C hr hlocks hK hP hD hS (Nat.le_of_ble_eq_true rfl) (Nat.le_of_ble_eq_true rfl) dX11_lawTells_160 (by cases hB; exact ⟨rfl, rfl⟩)
  · have hB := if_n hB c2
    refine lv_aload_n hx hb dX11_lawTells_50 rfl (lv_at hl 0 rfl) ?_
    refine q_get (v := .ref (a 30)) C inX11_lawTells_X11 hK hP 0 rfl rfl 30 (by decide) rfl LX11_lawTells_67 rfl dX11_lawTells_51 ?_
    refine lv_iload hx hb dX11_lawTells_54 (lv_at hl 2 rfl) ?_
    obtain ⟨g3, hB⟩ := guard_inv hB
    refine q_zald (x := (s.f 30 (Int32.toNatClampNeg x4))) C hK hP 17 3 rfl rfl (vpb_in g3) dX11_lawTells_56 rfl ?_
    refine lv_if_eq (tgt := 119) hx hb dX11_lawTells_57 (by decide) (fun c4 => ?_) (fun c4 => ?_)
    · have hB := if_p hB c4
      exact br_lawTells_119 _ _ hB p e s0 m below meth c A E H locs ls hP hD hS (lv_sub hl [0, 2] rfl)
    · have hB := if_n hB c4
      refine lv_aload_n hx hb dX11_lawTells_60 rfl (lv_at hl 0 rfl) ?_
      refine lv_aload_n hx hb dX11_lawTells_61 rfl (lv_at hl 0 rfl) ?_
      refine q_get (v := .ref (a 31)) C inX11_lawTells_X11 hK hP 0 rfl rfl 31 (by decide) rfl LX11_lawTells_71 rfl dX11_lawTells_62 ?_
      refine lv_iload hx hb dX11_lawTells_65 (lv_at hl 2 rfl) ?_
      obtain ⟨g5, hB⟩ := guard_inv hB
      refine q_iald (x := (s.f 31 (Int32.toNatClampNeg x4))) C hK hP 18 1 rfl rfl (vpb_in g5) dX11_lawTells_67 rfl ?_
      refine lv_aload_n hx hb dX11_lawTells_68 rfl (lv_at hl 0 rfl) ?_
      refine q_get (v := .ref (a 32)) C inX11_lawTells_X11 hK hP 0 rfl rfl 32 (by decide) rfl LX11_lawTells_74 rfl dX11_lawTells_69 ?_
      refine lv_iload hx hb dX11_lawTells_72 (lv_at hl 2 rfl) ?_
      obtain ⟨g6, hB⟩ := guard_inv hB
      refine q_iald (x := (s.f 32 (Int32.toNatClampNeg x4))) C hK hP 19 1 rfl rfl (vpb_in g6) dX11_lawTells_74 rfl ?_
      obtain ⟨q_, s7, hc, hB⟩ := bindI_inv hB
      refine q_goiF (va_runV (As := [.int (s.f 31 (Int32.toNatClampNeg x4)), .int (s.f 32 (Int32.toNatClampNeg x4))]) (rest := []) C (cr_termOf hc _) (cwV 2 hts gX11_lawTells_X11_termOf rfl rfl rfl (by decide +kernel) ⟨Nat.le_of_ble_eq_true rfl, Nat.le_of_ble_eq_true rfl⟩) (q_preV hK hP (ci := 11) (q0 := 0) rfl rfl rfl (q_preF hN hK hP hD)) rfl rfl hl.1 rfl (lv_room (Nat.le_of_ble_eq_true rfl)) dX11_lawTells_75 ⟨Nat.le_of_ble_eq_true rfl, Nat.le_of_ble_eq_true rfl⟩) hD hS hA (fun r8 w1 H locs hw hP hD hS => ?_)
      obtain ⟨hq_, hw⟩ := hw; subst hw; subst hq_
      refine lv_istore (lv' := [(5, .int r8), (0, .ref h), (3, .int x3), (4, .int x4)]) hx hb dX11_lawTells_78 hl (by decide) rfl (fun ls hl => ?_)
      refine lv_aload_n hx hb dX11_lawTells_80 rfl (lv_at hl 1 rfl) ?_
      refine lv_aload_n hx hb dX11_lawTells_81 rfl (lv_at hl 1 rfl) ?_
      refine q_get (v := .ref (a 32)) C inX11_lawTells_X11 hK hP 0 rfl rfl 32 (by decide) rfl LX11_lawTells_74 rfl dX11_lawTells_82 ?_
      refine lv_iload hx hb dX11_lawTells_85 (lv_at hl 3 rfl) ?_
      obtain ⟨g9, hB⟩ := guard_inv hB
      refine q_iald (x := (s7.f 32 (Int32.toNatClampNeg x4))) C hK hP 19 1 rfl rfl (vpb_in g9) dX11_lawTells_87 rfl ?_
      refine lv_aload_n hx hb dX11_lawTells_88 rfl (lv_at hl 1 rfl) ?_
      refine q_get (v := .ref (a 33)) C inX11_lawTells_X11 hK hP 0 rfl rfl 33 (by decide) rfl LX11_lawTells_77 rfl dX11_lawTells_89 ?_
      refine lv_iload hx hb dX11_lawTells_92 (lv_at hl 3 rfl) ?_
      obtain ⟨g10, hB⟩ := guard_inv hB
      refine q_iald (x := (s7.f 33 (Int32.toNatClampNeg x4))) C hK hP 20 1 rfl rfl (vpb_in g10) dX11_lawTells_94 rfl ?_
      obtain ⟨q_, s11, hc, hB⟩ := bindI_inv hB
      refine q_goiF (va_runV (As := [.int (s7.f 32 (Int32.toNatClampNeg x4)), .int (s7.f 33 (Int32.toNatClampNeg x4))]) (rest := []) C (cr_termOf hc _) (cwV 2 hts gX11_lawTells_X11_termOf rfl rfl rfl (by decide +kernel) ⟨Nat.le_of_ble_eq_true rfl, Nat.le_of_ble_eq_true rfl⟩) (q_preV hK hP (ci := 11) (q0 := 0) rfl rfl rfl (q_preF hN hK hP hD)) rfl rfl hl.1 rfl (lv_room (Nat.le_of_ble_eq_true rfl)) dX11_lawTells_95 ⟨Nat.le_of_ble_eq_true rfl, Nat.le_of_ble_eq_true rfl⟩) hD hS hA (fun r12 w1 H locs hw hP hD hS => ?_)
      obtain ⟨hq_, hw⟩ := hw; subst hw; subst hq_
      refine lv_istore (lv' := [(6, .int r12), (5, .int r8), (0, .ref h), (3, .int x3), (4, .int x4)]) hx hb dX11_lawTells_98 hl (by decide) rfl (fun ls hl => ?_)
      refine lv_aload_n hx hb dX11_lawTells_100 rfl (lv_at hl 2 rfl) ?_
      refine q_get (v := .int (s11.v 42)) C inX11_lawTells_X11 hK hP 0 rfl rfl 42 (by decide) rfl LX11_lawTells_277 rfl dX11_lawTells_101 ?_
      refine lv_if_eq (tgt := 109) hx hb dX11_lawTells_104 (by decide) (fun c13 => ?_) (fun c13 => ?_)
      · have hB := if_p hB c13
        refine lv_iload hx hb dX11_lawTells_109 (lv_at hl 1 rfl) ?_
        refine lv_iload hx hb dX11_lawTells_111 (lv_at hl 0 rfl) ?_
        refine lv_icmp_lt (tgt := 119) hx hb dX11_lawTells_113 (by decide) (fun c14 => ?_) (fun c14 => ?_)
        · have hB := if_p hB c14
          exact br_lawTells_119 _ _ hB p e s0 m below meth c A E H locs ls hP hD hS (lv_sub hl [2, 4] rfl)
        · have hB := if_n hB c14
          refine lv_goto (tgt := 153) hx hb dX11_lawTells_116 (by decide) ?_
          refine lv_iinc (v := (x4 + 1)) (lv' := [(4, .int (x4 + 1)), (6, .int r12), (5, .int r8), (0, .ref h), (3, .int x3)]) hx hb dX11_lawTells_153 hl (k := 4) rfl (rfl) (by decide) rfl (fun ls hl => ?_)
          refine lv_goto (tgt := 39) hx hb dX11_lawTells_156 (by decide) ?_
          exact hk39 _ _ _ hB p e s0 m below meth c A E H locs ls hP hD hS (lv_sub hl [3, 4, 0] rfl)
      · have hB := if_n hB c13
        refine lv_iconst (v := 0) hx hb dX11_lawTells_107 (by decide) ?_
        exact q_iret C hr hlocks hK hP hD hS (Nat.le_of_ble_eq_true rfl) (Nat.le_of_ble_eq_true rfl) dX11_lawTells_108 (by cases hB; exact ⟨rfl, rfl⟩)
theorem br_lawTells_39L {l : Launch} {dC : Nat → ClassId} {dI : Nat → Nat → Nat} {cB cI cJ cZ cS : ClassId} {h : Nat} {a : Nat → Nat} {as : List Value} {r : Int32} {s' : RS} : ∀ (n : Nat) (s : RS) (x3 : Int32) (x4 : Int32), r_lawTells_39L n s x3 x4 = some (r, s') → BlkI l yX11_lawTells wsX11_lawTells ({ frames := 1, cells := 0, slots := 0, locals := 27 }) cX11_lawTells 7 (some .int) (dC, dI) (tysA cB cI cJ cZ cS) as 39 (mwS cB cI cJ cZ h a s) [(0, .ref h), (3, .int x3), (4, .int x4)] [] (fun x u => x = r ∧ u = (mwS cB cI cJ cZ h a s')) := by
  intro n
  induction n with
  | zero => intro s x3 x4 hB; exact none_ne hB
  | succ n ih => intro s x3 x4 hB; exact br_lawTells_39 ih _ _ _ hB
set_option maxHeartbeats 4000000 in
set_option maxRecDepth 100000 in
theorem br_lawTells {l : Launch} {dC : Nat → ClassId} {dI : Nat → Nat → Nat} {cB cI cJ cZ cS : ClassId} {h : Nat} {a : Nat → Nat} {as : List Value} {r : Int32} {s' : RS} (s : RS) (x1 : Int32) (x2 : Int32) (hB : r_lawTells s x1 x2 = some (r, s')) : BlkI l yX11_lawTells wsX11_lawTells ({ frames := 1, cells := 0, slots := 0, locals := 27 }) cX11_lawTells 7 (some .int) (dC, dI) (tysA cB cI cJ cZ cS) as 0 (mwS cB cI cJ cZ h a s) [(0, .ref h), (1, .int x1), (2, .int x2)] [] (fun x u => x = r ∧ u = (mwS cB cI cJ cZ h a s')) := by
  intro p e s0 m below meth c A E H locs ls hP hD hS hl
  obtain ⟨C, hr, hlocks, hA, hK, hN⟩ := id E
  obtain ⟨hx, hb, hml, hown, hts⟩ := id C
  unfold r_lawTells at hB
  refine lv_iconst (v := 4) hx hb dX11_lawTells_0 (by decide) ?_
  refine lv_aload_n hx hb dX11_lawTells_1 rfl (lv_at hl 0 rfl) ?_
  refine q_get (v := .int (s.v 18)) C inX11_lawTells_X11 hK hP 0 rfl rfl 18 (by decide) rfl LX11_lawTells_215 rfl dX11_lawTells_2 ?_
  refine lv_imul hx hb dX11_lawTells_5 ?_
  refine lv_iload_n hx hb dX11_lawTells_6 rfl (lv_at hl 1 rfl) ?_
  refine lv_iadd hx hb dX11_lawTells_7 ?_
  refine lv_istore_n (lv' := [(3, .int ((4 * (s.v 18)) + x1)), (0, .ref h), (1, .int x1), (2, .int x2)]) hx hb dX11_lawTells_8 rfl hl (by decide) rfl (fun ls hl => ?_)
  refine lv_aload_n hx hb dX11_lawTells_9 rfl (lv_at hl 1 rfl) ?_
  refine q_get (v := .ref (a 27)) C inX11_lawTells_X11 hK hP 0 rfl rfl 27 (by decide) rfl LX11_lawTells_61 rfl dX11_lawTells_10 ?_
  refine lv_iload_n hx hb dX11_lawTells_13 rfl (lv_at hl 0 rfl) ?_
  obtain ⟨g1, hB⟩ := guard_inv hB
  refine q_iald (x := (s.f 27 (Int32.toNatClampNeg ((4 * (s.v 18)) + x1)))) C hK hP 15 1 rfl rfl (vpb_in g1) dX11_lawTells_14 rfl ?_
  refine lv_aload_n hx hb dX11_lawTells_15 rfl (lv_at hl 1 rfl) ?_
  refine q_get (v := .ref (a 28)) C inX11_lawTells_X11 hK hP 0 rfl rfl 28 (by decide) rfl LX11_lawTells_64 rfl dX11_lawTells_16 ?_
  refine lv_iload_n hx hb dX11_lawTells_19 rfl (lv_at hl 0 rfl) ?_
  obtain ⟨g2, hB⟩ := guard_inv hB
  refine q_iald (x := (s.f 28 (Int32.toNatClampNeg ((4 * (s.v 18)) + x1)))) C hK hP 16 1 rfl rfl (vpb_in g2) dX11_lawTells_20 rfl ?_
  refine lv_icmp_ne (tgt := 26) hx hb dX11_lawTells_21 (by decide) (fun c3 => ?_) (fun c3 => ?_)
  · have hB := if_n hB c3
    refine lv_aload_n hx hb dX11_lawTells_26 rfl (lv_at hl 1 rfl) ?_
    refine lv_iconst (v := 0) hx hb dX11_lawTells_27 (by decide) ?_
    obtain ⟨s4, hs5, hB⟩ := letS_inv hB
    refine q_put (ty := .boolean) (w2 := (mwS cB cI cJ cZ h a s4)) tyX11 tyX11_ok nmX11 C inX11_lawTells_X11 hK hP hD hS 0 rfl rfl 42 (by decide) rfl LX11_lawTells_277 rfl (by decide +kernel) (by decide +kernel) rfl (Nat.le_of_ble_eq_true rfl) dX11_lawTells_28 (mwS_v42 hs5) (fun H locs hP hD hS => ?_)
    refine lv_aload_n hx hb dX11_lawTells_31 rfl (lv_at hl 1 rfl) ?_
    refine q_get (v := .ref (a 27)) C inX11_lawTells_X11 hK hP 0 rfl rfl 27 (by decide) rfl LX11_lawTells_61 rfl dX11_lawTells_32 ?_
    refine lv_iload_n hx hb dX11_lawTells_35 rfl (lv_at hl 0 rfl) ?_
    obtain ⟨g6, hB⟩ := guard_inv hB
    refine q_iald (x := (s4.f 27 (Int32.toNatClampNeg ((4 * (s.v 18)) + x1)))) C hK hP 15 1 rfl rfl (vpb_in g6) dX11_lawTells_36 rfl ?_
    refine lv_istore (lv' := [(4, .int (s4.f 27 (Int32.toNatClampNeg ((4 * (s.v 18)) + x1)))), (3, .int ((4 * (s.v 18)) + x1)), (0, .ref h), (1, .int x1), (2, .int x2)]) hx hb dX11_lawTells_37 hl (by decide) rfl (fun ls hl => ?_)
    exact br_lawTells_39L fu _ _ _ hB p e s0 m below meth c A E H locs ls hP hD hS (lv_sub hl [2, 1, 0] rfl)
  · have hB := if_p hB c3
    refine lv_iload_n hx hb dX11_lawTells_24 rfl (lv_at hl 3 rfl) ?_
    exact q_iret C hr hlocks hK hP hD hS (Nat.le_of_ble_eq_true rfl) (Nat.le_of_ble_eq_true rfl) dX11_lawTells_25 (by cases hB; exact ⟨rfl, rfl⟩)
theorem cr_lawTells {l : Launch} {dC : Nat → ClassId} {dI : Nat → Nat → Nat} {cB cI cJ cZ cS : ClassId} {h : Nat} {a : Nat → Nat} {r : Int32} {s' : RS} {s : RS} {x1 : Int32} {x2 : Int32} (hB : r_lawTells s x1 x2 = some (r, s')) : CI l yX11_lawTells wsX11_lawTells ({ frames := 1, cells := 0, slots := 0, locals := 27 }) (dC, dI) (tysA cB cI cJ cZ cS) (mwS cB cI cJ cZ h a s) [.ref h, .int x1, .int x2] (fun x u => x = r ∧ u = (mwS cB cI cJ cZ h a s')) :=
  CI_of (cc := cX11_lawTells) (maxL := 7) (ret := (some .int)) (by decide) rfl (Nat.le_of_ble_eq_true rfl) (br_lawTells _ _ _ hB)
theorem LX11_looks_101 : Cond.fieldLink RX11 101 "GuessFerryModel" "row" "[I" ∈ wsX11_looks := by decide +kernel
theorem LX11_looks_215 : Cond.fieldLink RX11 215 "GuessFerryModel" "live" "I" ∈ wsX11_looks := by decide +kernel
theorem LX11_looks_52 : Cond.fieldLink RX11 52 "GuessFerryModel" "heavyOf" "[I" ∈ wsX11_looks := by decide +kernel
theorem LX11_looks_55 : Cond.fieldLink RX11 55 "GuessFerryModel" "nerveOf" "[I" ∈ wsX11_looks := by decide +kernel
theorem LX11_looks_92 : Cond.fieldLink RX11 92 "GuessFerryModel" "variables" "[I" ∈ wsX11_looks := by decide +kernel
theorem inX11_looks_X11 : ∀ w ∈ u_ws RX11 TX11 58, w ∈ wsX11_looks := fun _ h => List.mem_cons_of_mem _ (List.mem_append_right _ h)
set_option maxHeartbeats 4000000 in
set_option maxRecDepth 100000 in
theorem br_looks_2 {l : Launch} {dC : Nat → ClassId} {dI : Nat → Nat → Nat} {cB cI cJ cZ cS : ClassId} {h : Nat} {a : Nat → Nat} {as : List Value} {s' : RS} {k2 : RS → Int32 → Int32 → Option RS} (hk2 : ∀ (s : RS) (x1 : Int32) (x2 : Int32), k2 s x1 x2 = some s' → BlkV l yX11_looks wsX11_looks ({ frames := 0, cells := 0, slots := 0, locals := 0 }) cX11_looks 3 none (dC, dI) (tysA cB cI cJ cZ cS) as 2 (mwS cB cI cJ cZ h a s) [(0, .ref h), (1, .int x1), (2, .int x2)] [] (fun u => u = (mwS cB cI cJ cZ h a s'))) (s : RS) (x1 : Int32) (x2 : Int32) (hB : r_looks_2 k2 s x1 x2 = some s') : BlkV l yX11_looks wsX11_looks ({ frames := 0, cells := 0, slots := 0, locals := 0 }) cX11_looks 3 none (dC, dI) (tysA cB cI cJ cZ cS) as 2 (mwS cB cI cJ cZ h a s) [(0, .ref h), (1, .int x1), (2, .int x2)] [] (fun u => u = (mwS cB cI cJ cZ h a s')) := by
  intro p e s0 m below meth c A E H locs ls hP hD hS hl
  obtain ⟨C, hr, hlocks, hA, hK, hN⟩ := id E
  obtain ⟨hx, hb, hml, hown, hts⟩ := id C
  unfold r_looks_2 at hB
  refine lv_iload_n hx hb dX11_looks_2 rfl (lv_at hl 2 rfl) ?_
  refine lv_bipush (v := 9) hx hb dX11_looks_3 (by decide) ?_
  refine lv_icmp_ge (tgt := 21) hx hb dX11_looks_5 (by decide) (fun c1 => ?_) (fun c1 => ?_)
  · have hB := if_p hB c1
    refine lv_aload_n hx hb dX11_looks_21 rfl (lv_at hl 0 rfl) ?_
    refine q_get (v := .ref (a 40)) C inX11_looks_X11 hK hP 0 rfl rfl 40 (by decide) rfl LX11_looks_92 rfl dX11_looks_22 ?_
    refine lv_iconst (v := 5) hx hb dX11_looks_25 (by decide) ?_
    refine lv_aload_n hx hb dX11_looks_26 rfl (lv_at hl 0 rfl) ?_
    refine q_get (v := .ref (a 44)) C inX11_looks_X11 hK hP 0 rfl rfl 44 (by decide) rfl LX11_looks_101 rfl dX11_looks_27 ?_
    refine lv_bipush (v := 27) hx hb dX11_looks_30 (by decide) ?_
    refine q_iald (x := (s.f 44 27)) C hK hP 28 1 rfl rfl (vp_lit (by decide +kernel)) dX11_looks_32 rfl ?_
    obtain ⟨s2, hs3, hB⟩ := letS_inv hB
    refine q_iast (f2 := (upd (s.f 40) 5 (s.f 44 27))) (w2 := (mwS cB cI cJ cZ h a s2)) C hK hP hD hS 25 1 rfl rfl (vp_lit (by decide +kernel)) dX11_looks_33 rfl (mwS_f40 hs3) (fun H locs hP hD hS => ?_)
    refine lv_iload_n hx hb dX11_looks_34 rfl (lv_at hl 1 rfl) ?_
    refine lv_if_ge (tgt := 39) hx hb dX11_looks_35 (by decide) (fun c4 => ?_) (fun c4 => ?_)
    · have hB := if_p hB c4
      refine lv_aload_n hx hb dX11_looks_39 rfl (lv_at hl 0 rfl) ?_
      refine q_get (v := .ref (a 40)) C inX11_looks_X11 hK hP 0 rfl rfl 40 (by decide) rfl LX11_looks_92 rfl dX11_looks_40 ?_
      refine lv_iconst (v := 2) hx hb dX11_looks_43 (by decide) ?_
      refine lv_aload_n hx hb dX11_looks_44 rfl (lv_at hl 0 rfl) ?_
      refine q_get (v := .ref (a 24)) C inX11_looks_X11 hK hP 0 rfl rfl 24 (by decide) rfl LX11_looks_52 rfl dX11_looks_45 ?_
      refine lv_bipush (v := 6) hx hb dX11_looks_48 (by decide) ?_
      refine lv_aload_n hx hb dX11_looks_50 rfl (lv_at hl 0 rfl) ?_
      refine q_get (v := .int (s2.v 18)) C inX11_looks_X11 hK hP 0 rfl rfl 18 (by decide) rfl LX11_looks_215 rfl dX11_looks_51 ?_
      refine lv_imul hx hb dX11_looks_54 ?_
      refine lv_iload_n hx hb dX11_looks_55 rfl (lv_at hl 1 rfl) ?_
      refine lv_iadd hx hb dX11_looks_56 ?_
      obtain ⟨g5, hB⟩ := guard_inv hB
      refine q_iald (x := (s2.f 24 (Int32.toNatClampNeg ((6 * (s2.v 18)) + x1)))) C hK hP 12 1 rfl rfl (vpb_in g5) dX11_looks_57 rfl ?_
      obtain ⟨s6, hs7, hB⟩ := letS_inv hB
      refine q_iast (f2 := (upd (s2.f 40) 2 (s2.f 24 (Int32.toNatClampNeg ((6 * (s2.v 18)) + x1))))) (w2 := (mwS cB cI cJ cZ h a s6)) C hK hP hD hS 25 1 rfl rfl (vp_lit (by decide +kernel)) dX11_looks_58 rfl (mwS_f40 hs7) (fun H locs hP hD hS => ?_)
      refine lv_aload_n hx hb dX11_looks_59 rfl (lv_at hl 0 rfl) ?_
      refine q_get (v := .ref (a 40)) C inX11_looks_X11 hK hP 0 rfl rfl 40 (by decide) rfl LX11_looks_92 rfl dX11_looks_60 ?_
      refine lv_iconst (v := 3) hx hb dX11_looks_63 (by decide) ?_
      refine lv_aload_n hx hb dX11_looks_64 rfl (lv_at hl 0 rfl) ?_
      refine q_get (v := .ref (a 25)) C inX11_looks_X11 hK hP 0 rfl rfl 25 (by decide) rfl LX11_looks_55 rfl dX11_looks_65 ?_
      refine lv_bipush (v := 6) hx hb dX11_looks_68 (by decide) ?_
      refine lv_aload_n hx hb dX11_looks_70 rfl (lv_at hl 0 rfl) ?_
      refine q_get (v := .int (s6.v 18)) C inX11_looks_X11 hK hP 0 rfl rfl 18 (by decide) rfl LX11_looks_215 rfl dX11_looks_71 ?_
      refine lv_imul hx hb dX11_looks_74 ?_
      refine lv_iload_n hx hb dX11_looks_75 rfl (lv_at hl 1 rfl) ?_
      refine lv_iadd hx hb dX11_looks_76 ?_
      obtain ⟨g8, hB⟩ := guard_inv hB
      refine q_iald (x := (s6.f 25 (Int32.toNatClampNeg ((6 * (s6.v 18)) + x1)))) C hK hP 13 1 rfl rfl (vpb_in g8) dX11_looks_77 rfl ?_
      obtain ⟨s9, hs10, hB⟩ := letS_inv hB
      refine q_iast (f2 := (upd (s6.f 40) 3 (s6.f 25 (Int32.toNatClampNeg ((6 * (s6.v 18)) + x1))))) (w2 := (mwS cB cI cJ cZ h a s9)) C hK hP hD hS 25 1 rfl rfl (vp_lit (by decide +kernel)) dX11_looks_78 rfl (mwS_f40 hs10) (fun H locs hP hD hS => ?_)
      refine lv_aload_n hx hb dX11_looks_79 rfl (lv_at hl 0 rfl) ?_
      refine q_get (v := .ref (a 40)) C inX11_looks_X11 hK hP 0 rfl rfl 40 (by decide) rfl LX11_looks_92 rfl dX11_looks_80 ?_
      refine lv_bipush (v := 6) hx hb dX11_looks_83 (by decide) ?_
      refine lv_iload_n hx hb dX11_looks_85 rfl (lv_at hl 1 rfl) ?_
      obtain ⟨s11, hs12, hB⟩ := letS_inv hB
      refine q_iast (f2 := (upd (s9.f 40) 6 x1)) (w2 := (mwS cB cI cJ cZ h a s11)) C hK hP hD hS 25 1 rfl rfl (vp_lit (by decide +kernel)) dX11_looks_86 rfl (mwS_f40 hs12) (fun H locs hP hD hS => ?_)
      refine lv_aload_n hx hb dX11_looks_87 rfl (lv_at hl 0 rfl) ?_
      refine q_get (v := .ref (a 40)) C inX11_looks_X11 hK hP 0 rfl rfl 40 (by decide) rfl LX11_looks_92 rfl dX11_looks_88 ?_
      refine lv_bipush (v := 8) hx hb dX11_looks_91 (by decide) ?_
      refine lv_aload_n hx hb dX11_looks_93 rfl (lv_at hl 0 rfl) ?_
      refine q_get (v := .ref (a 44)) C inX11_looks_X11 hK hP 0 rfl rfl 44 (by decide) rfl LX11_looks_101 rfl dX11_looks_94 ?_
      refine lv_bipush (v := 21) hx hb dX11_looks_97 (by decide) ?_
      refine lv_iload_n hx hb dX11_looks_99 rfl (lv_at hl 1 rfl) ?_
      refine lv_iadd hx hb dX11_looks_100 ?_
      obtain ⟨g13, hB⟩ := guard_inv hB
      refine q_iald (x := (s11.f 44 (Int32.toNatClampNeg (21 + x1)))) C hK hP 28 1 rfl rfl (vpb_in g13) dX11_looks_101 rfl ?_
      obtain ⟨s14, hs15, hB⟩ := letS_inv hB
      refine q_iast (f2 := (upd (s11.f 40) 8 (s11.f 44 (Int32.toNatClampNeg (21 + x1))))) (w2 := (mwS cB cI cJ cZ h a s14)) C hK hP hD hS 25 1 rfl rfl (vp_lit (by decide +kernel)) dX11_looks_102 rfl (mwS_f40 hs15) (fun H locs hP hD hS => ?_)
      exact q_vret C hr hlocks hK hP hD hS (Nat.le_of_ble_eq_true rfl) (Nat.le_of_ble_eq_true rfl) dX11_looks_103 (by cases hB; rfl)
    · have hB := if_n hB c4
      exact q_vret C hr hlocks hK hP hD hS (Nat.le_of_ble_eq_true rfl) (Nat.le_of_ble_eq_true rfl) dX11_looks_38 (by cases hB; rfl)
  · have hB := if_n hB c1
    refine lv_aload_n hx hb dX11_looks_8 rfl (lv_at hl 0 rfl) ?_
    refine q_get (v := .ref (a 40)) C inX11_looks_X11 hK hP 0 rfl rfl 40 (by decide) rfl LX11_looks_92 rfl dX11_looks_9 ?_
    refine lv_iload_n hx hb dX11_looks_12 rfl (lv_at hl 2 rfl) ?_
    refine lv_iconst (v := 0) hx hb dX11_looks_13 (by decide) ?_
    obtain ⟨g16, hB⟩ := guard_inv hB
    obtain ⟨s17, hs18, hB⟩ := letS_inv hB
    refine q_iast (f2 := (upd (s.f 40) (Int32.toNatClampNeg x2) 0)) (w2 := (mwS cB cI cJ cZ h a s17)) C hK hP hD hS 25 1 rfl rfl (vpb_in g16) dX11_looks_14 rfl (mwS_f40 hs18) (fun H locs hP hD hS => ?_)
    refine lv_iinc (v := (x2 + 1)) (lv' := [(2, .int (x2 + 1)), (0, .ref h), (1, .int x1)]) hx hb dX11_looks_15 hl (k := 2) rfl (rfl) (by decide) rfl (fun ls hl => ?_)
    refine lv_goto (tgt := 2) hx hb dX11_looks_18 (by decide) ?_
    exact hk2 _ _ _ hB p e s0 m below meth c A E H locs ls hP hD hS (lv_sub hl [1, 2, 0] rfl)
theorem br_looks_2L {l : Launch} {dC : Nat → ClassId} {dI : Nat → Nat → Nat} {cB cI cJ cZ cS : ClassId} {h : Nat} {a : Nat → Nat} {as : List Value} {s' : RS} : ∀ (n : Nat) (s : RS) (x1 : Int32) (x2 : Int32), r_looks_2L n s x1 x2 = some s' → BlkV l yX11_looks wsX11_looks ({ frames := 0, cells := 0, slots := 0, locals := 0 }) cX11_looks 3 none (dC, dI) (tysA cB cI cJ cZ cS) as 2 (mwS cB cI cJ cZ h a s) [(0, .ref h), (1, .int x1), (2, .int x2)] [] (fun u => u = (mwS cB cI cJ cZ h a s')) := by
  intro n
  induction n with
  | zero => intro s x1 x2 hB; exact none_ne hB
  | succ n ih => intro s x1 x2 hB; exact br_looks_2 ih _ _ _ hB
set_option maxHeartbeats 4000000 in
set_option maxRecDepth 100000 in
theorem br_looks {l : Launch} {dC : Nat → ClassId} {dI : Nat → Nat → Nat} {cB cI cJ cZ cS : ClassId} {h : Nat} {a : Nat → Nat} {as : List Value} {s' : RS} (s : RS) (x1 : Int32) (hB : r_looks s x1 = some s') : BlkV l yX11_looks wsX11_looks ({ frames := 0, cells := 0, slots := 0, locals := 0 }) cX11_looks 3 none (dC, dI) (tysA cB cI cJ cZ cS) as 0 (mwS cB cI cJ cZ h a s) [(0, .ref h), (1, .int x1)] [] (fun u => u = (mwS cB cI cJ cZ h a s')) := by
  intro p e s0 m below meth c A E H locs ls hP hD hS hl
  obtain ⟨C, hr, hlocks, hA, hK, hN⟩ := id E
  obtain ⟨hx, hb, hml, hown, hts⟩ := id C
  unfold r_looks at hB
  refine lv_iconst (v := 0) hx hb dX11_looks_0 (by decide) ?_
  refine lv_istore_n (lv' := [(2, .int 0), (0, .ref h), (1, .int x1)]) hx hb dX11_looks_1 rfl hl (by decide) rfl (fun ls hl => ?_)
  exact br_looks_2L fu _ _ _ hB p e s0 m below meth c A E H locs ls hP hD hS (lv_sub hl [1, 2, 0] rfl)
theorem cr_looks {l : Launch} {dC : Nat → ClassId} {dI : Nat → Nat → Nat} {cB cI cJ cZ cS : ClassId} {h : Nat} {a : Nat → Nat} {s' : RS} {s : RS} {x1 : Int32} (hB : r_looks s x1 = some s') : CV l yX11_looks wsX11_looks ({ frames := 0, cells := 0, slots := 0, locals := 0 }) (dC, dI) (tysA cB cI cJ cZ cS) (mwS cB cI cJ cZ h a s) [.ref h, .int x1] (fun u => u = (mwS cB cI cJ cZ h a s')) :=
  CV_of (cc := cX11_looks) (maxL := 3) (ret := none) (by decide) rfl (Nat.le_of_ble_eq_true rfl) (br_looks _ _ hB)
theorem LX11_looksOver_101 : Cond.fieldLink RX11 101 "GuessFerryModel" "row" "[I" ∈ wsX11_looksOver := by decide +kernel
theorem LX11_looksOver_92 : Cond.fieldLink RX11 92 "GuessFerryModel" "variables" "[I" ∈ wsX11_looksOver := by decide +kernel
theorem inX11_looksOver_X11 : ∀ w ∈ u_ws RX11 TX11 58, w ∈ wsX11_looksOver := fun _ h => List.mem_cons_of_mem _ (List.mem_append_right _ h)
set_option maxHeartbeats 4000000 in
set_option maxRecDepth 100000 in
theorem br_looksOver {l : Launch} {dC : Nat → ClassId} {dI : Nat → Nat → Nat} {cB cI cJ cZ cS : ClassId} {h : Nat} {a : Nat → Nat} {as : List Value} {s' : RS} (s : RS) (x1 : Int32) (hB : r_looksOver s x1 = some s') : BlkV l yX11_looksOver wsX11_looksOver ({ frames := 2, cells := 0, slots := 0, locals := 45 }) cX11_looksOver 2 none (dC, dI) (tysA cB cI cJ cZ cS) as 0 (mwS cB cI cJ cZ h a s) [(0, .ref h), (1, .int x1)] [] (fun u => u = (mwS cB cI cJ cZ h a s')) := by
  intro p e s0 m below meth c A E H locs ls hP hD hS hl
  obtain ⟨C, hr, hlocks, hA, hK, hN⟩ := id E
  obtain ⟨hx, hb, hml, hown, hts⟩ := id C
  unfold r_looksOver at hB
  refine lv_aload_n hx hb dX11_looksOver_0 rfl (lv_at hl 0 rfl) ?_
  refine q_get (v := .ref (a 40)) C inX11_looksOver_X11 hK hP 0 rfl rfl 40 (by decide) rfl LX11_looksOver_92 rfl dX11_looksOver_1 ?_
  refine lv_iconst (v := 0) hx hb dX11_looksOver_4 (by decide) ?_
  refine lv_iload_n hx hb dX11_looksOver_5 rfl (lv_at hl 1 rfl) ?_
  obtain ⟨s1, hs2, hB⟩ := letS_inv hB
  refine q_iast (f2 := (upd (s.f 40) 0 x1)) (w2 := (mwS cB cI cJ cZ h a s1)) C hK hP hD hS 25 1 rfl rfl (vp_lit (by decide +kernel)) dX11_looksOver_6 rfl (mwS_f40 hs2) (fun H locs hP hD hS => ?_)
  refine lv_aload_n hx hb dX11_looksOver_7 rfl (lv_at hl 0 rfl) ?_
  refine q_get (v := .ref (a 40)) C inX11_looksOver_X11 hK hP 0 rfl rfl 40 (by decide) rfl LX11_looksOver_92 rfl dX11_looksOver_8 ?_
  refine lv_iconst (v := 4) hx hb dX11_looksOver_11 (by decide) ?_
  refine lv_aload_n hx hb dX11_looksOver_12 rfl (lv_at hl 0 rfl) ?_
  refine lv_iload_n hx hb dX11_looksOver_13 rfl (lv_at hl 1 rfl) ?_
  obtain ⟨q_, s3, hc, hB⟩ := bindI_inv hB
  refine q_goiF (va_runV (As := [.int x1]) (rest := [.int 4, .ref (a 40)]) C (cr_mayAt hc _) (cwV 1 hts gX11_looksOver_X11_mayAt rfl rfl rfl (by decide +kernel) ⟨Nat.le_of_ble_eq_true rfl, Nat.le_of_ble_eq_true rfl⟩) (q_preV hK hP (ci := 11) (q0 := 0) rfl rfl rfl (q_preF hN hK hP hD)) rfl rfl hl.1 rfl (lv_room (Nat.le_of_ble_eq_true rfl)) dX11_looksOver_14 ⟨Nat.le_of_ble_eq_true rfl, Nat.le_of_ble_eq_true rfl⟩) hD hS hA (fun r4 w1 H locs hw hP hD hS => ?_)
  obtain ⟨hq_, hw⟩ := hw; subst hw; subst hq_
  obtain ⟨q_, hc, hB⟩ := bindP_inv hB
  refine q_goi0 (va_runS (As := [.int r4]) (rest := [.int 4, .ref (a 40)]) C (cr_bits hc _) (va_cwS 1 hts gX11_looksOver_X11_bits rfl rfl rfl (by decide +kernel) ⟨Nat.le_of_ble_eq_true rfl, Nat.le_of_ble_eq_true rfl⟩) (q_pre0 hN hK) rfl rfl hl.1 rfl (lv_room (Nat.le_of_ble_eq_true rfl)) dX11_looksOver_17 ⟨Nat.le_of_ble_eq_true rfl, Nat.le_of_ble_eq_true rfl⟩) hP hD hS hA (fun r5 w1 H locs hw hP hS => ?_)
  subst hw
  obtain ⟨s6, hs7, hB⟩ := letS_inv hB
  refine q_iast (f2 := (upd (s3.f 40) 4 r5)) (w2 := (mwS cB cI cJ cZ h a s6)) C hK hP hD hS 25 1 rfl rfl (vp_lit (by decide +kernel)) dX11_looksOver_20 rfl (mwS_f40 hs7) (fun H locs hP hD hS => ?_)
  refine lv_aload_n hx hb dX11_looksOver_21 rfl (lv_at hl 0 rfl) ?_
  refine q_get (v := .ref (a 40)) C inX11_looksOver_X11 hK hP 0 rfl rfl 40 (by decide) rfl LX11_looksOver_92 rfl dX11_looksOver_22 ?_
  refine lv_bipush (v := 7) hx hb dX11_looksOver_25 (by decide) ?_
  refine lv_aload_n hx hb dX11_looksOver_27 rfl (lv_at hl 0 rfl) ?_
  refine q_get (v := .ref (a 44)) C inX11_looksOver_X11 hK hP 0 rfl rfl 44 (by decide) rfl LX11_looksOver_101 rfl dX11_looksOver_28 ?_
  refine lv_iload_n hx hb dX11_looksOver_31 rfl (lv_at hl 1 rfl) ?_
  obtain ⟨g8, hB⟩ := guard_inv hB
  refine q_iald (x := (s6.f 44 (Int32.toNatClampNeg x1))) C hK hP 28 1 rfl rfl (vpb_in g8) dX11_looksOver_32 rfl ?_
  obtain ⟨q_, hc, hB⟩ := bindP_inv hB
  refine q_goi0 (va_runS (As := [.int (s6.f 44 (Int32.toNatClampNeg x1))]) (rest := [.int 7, .ref (a 40)]) C (cr_bits hc _) (va_cwS 1 hts gX11_looksOver_X11_bits rfl rfl rfl (by decide +kernel) ⟨Nat.le_of_ble_eq_true rfl, Nat.le_of_ble_eq_true rfl⟩) (q_pre0 hN hK) rfl rfl hl.1 rfl (lv_room (Nat.le_of_ble_eq_true rfl)) dX11_looksOver_33 ⟨Nat.le_of_ble_eq_true rfl, Nat.le_of_ble_eq_true rfl⟩) hP hD hS hA (fun r9 w1 H locs hw hP hS => ?_)
  subst hw
  obtain ⟨s10, hs11, hB⟩ := letS_inv hB
  refine q_iast (f2 := (upd (s6.f 40) 7 r9)) (w2 := (mwS cB cI cJ cZ h a s10)) C hK hP hD hS 25 1 rfl rfl (vp_lit (by decide +kernel)) dX11_looksOver_36 rfl (mwS_f40 hs11) (fun H locs hP hD hS => ?_)
  exact q_vret C hr hlocks hK hP hD hS (Nat.le_of_ble_eq_true rfl) (Nat.le_of_ble_eq_true rfl) dX11_looksOver_37 (by cases hB; rfl)
theorem cr_looksOver {l : Launch} {dC : Nat → ClassId} {dI : Nat → Nat → Nat} {cB cI cJ cZ cS : ClassId} {h : Nat} {a : Nat → Nat} {s' : RS} {s : RS} {x1 : Int32} (hB : r_looksOver s x1 = some s') : CV l yX11_looksOver wsX11_looksOver ({ frames := 2, cells := 0, slots := 0, locals := 45 }) (dC, dI) (tysA cB cI cJ cZ cS) (mwS cB cI cJ cZ h a s) [.ref h, .int x1] (fun u => u = (mwS cB cI cJ cZ h a s')) :=
  CV_of (cc := cX11_looksOver) (maxL := 2) (ret := none) (by decide) rfl (Nat.le_of_ble_eq_true rfl) (br_looksOver _ _ hB)
theorem LX11_needsOf_92 : Cond.fieldLink RX11 92 "GuessFerryModel" "variables" "[I" ∈ wsX11_needsOf := by decide +kernel
theorem inX11_needsOf_X11 : ∀ w ∈ u_ws RX11 TX11 58, w ∈ wsX11_needsOf := by decide +kernel
set_option maxHeartbeats 4000000 in
set_option maxRecDepth 100000 in
theorem br_needsOf {l : Launch} {dC : Nat → ClassId} {dI : Nat → Nat → Nat} {cB cI cJ cZ cS : ClassId} {h : Nat} {a : Nat → Nat} {as : List Value} {r : Int32} {s' : RS} (s : RS) (x1 : Int32) (x2 : Int32) (x3 : Int32) (hB : r_needsOf s x1 x2 x3 = some (r, s')) : BlkI l yX11_needsOf wsX11_needsOf ({ frames := 3, cells := 0, slots := 0, locals := 66 }) cX11_needsOf 4 (some .int) (dC, dI) (tysA cB cI cJ cZ cS) as 0 (mwS cB cI cJ cZ h a s) [(0, .ref h), (1, .int x1), (2, .int x2), (3, .int x3)] [] (fun x u => x = r ∧ u = (mwS cB cI cJ cZ h a s')) := by
  intro p e s0 m below meth c A E H locs ls hP hD hS hl
  obtain ⟨C, hr, hlocks, hA, hK, hN⟩ := id E
  obtain ⟨hx, hb, hml, hown, hts⟩ := id C
  unfold r_needsOf at hB
  refine lv_aload_n hx hb dX11_needsOf_0 rfl (lv_at hl 0 rfl) ?_
  refine lv_iload_n hx hb dX11_needsOf_1 rfl (lv_at hl 1 rfl) ?_
  obtain ⟨s1, hc, hB⟩ := bindP_inv hB
  refine q_govF (va_runV (As := [.int x1]) (rest := []) C (cr_looks hc _) (cwV 1 hts gX11_needsOf_X11_looks rfl rfl rfl (by decide +kernel) ⟨Nat.le_of_ble_eq_true rfl, Nat.le_of_ble_eq_true rfl⟩) (q_preV hK hP (ci := 11) (q0 := 0) rfl rfl rfl (q_preF hN hK hP hD)) rfl rfl hl.1 rfl (lv_room (Nat.le_of_ble_eq_true rfl)) dX11_needsOf_2 ⟨Nat.le_of_ble_eq_true rfl, Nat.le_of_ble_eq_true rfl⟩) hD hS hA (fun w1 H locs hw hP hD hS => ?_)
  subst hw
  refine lv_aload_n hx hb dX11_needsOf_5 rfl (lv_at hl 0 rfl) ?_
  refine lv_iload_n hx hb dX11_needsOf_6 rfl (lv_at hl 2 rfl) ?_
  obtain ⟨s2, hc, hB⟩ := bindP_inv hB
  refine q_govF (va_runV (As := [.int x2]) (rest := []) C (cr_looksOver hc _) (cwV 1 hts gX11_needsOf_X11_looksOver rfl rfl rfl (by decide +kernel) ⟨Nat.le_of_ble_eq_true rfl, Nat.le_of_ble_eq_true rfl⟩) (q_preV hK hP (ci := 11) (q0 := 0) rfl rfl rfl (q_preF hN hK hP hD)) rfl rfl hl.1 rfl (lv_room (Nat.le_of_ble_eq_true rfl)) dX11_needsOf_7 ⟨Nat.le_of_ble_eq_true rfl, Nat.le_of_ble_eq_true rfl⟩) hD hS hA (fun w1 H locs hw hP hD hS => ?_)
  subst hw
  refine lv_aload_n hx hb dX11_needsOf_10 rfl (lv_at hl 0 rfl) ?_
  refine q_get (v := .ref (a 40)) C inX11_needsOf_X11 hK hP 0 rfl rfl 40 (by decide) rfl LX11_needsOf_92 rfl dX11_needsOf_11 ?_
  refine lv_iconst (v := 1) hx hb dX11_needsOf_14 (by decide) ?_
  refine lv_aload_n hx hb dX11_needsOf_15 rfl (lv_at hl 0 rfl) ?_
  refine lv_iload_n hx hb dX11_needsOf_16 rfl (lv_at hl 2 rfl) ?_
  refine lv_iload_n hx hb dX11_needsOf_17 rfl (lv_at hl 3 rfl) ?_
  obtain ⟨q_, s3, hc, hB⟩ := bindI_inv hB
  refine q_goiF (va_runV (As := [.int x2, .int x3]) (rest := [.int 1, .ref (a 40)]) C (cr_oddsAt hc _) (cwV 2 hts gX11_needsOf_X11_oddsAt rfl rfl rfl (by decide +kernel) ⟨Nat.le_of_ble_eq_true rfl, Nat.le_of_ble_eq_true rfl⟩) (q_preV hK hP (ci := 11) (q0 := 0) rfl rfl rfl (q_preF hN hK hP hD)) rfl rfl hl.1 rfl (lv_room (Nat.le_of_ble_eq_true rfl)) dX11_needsOf_18 ⟨Nat.le_of_ble_eq_true rfl, Nat.le_of_ble_eq_true rfl⟩) hD hS hA (fun r4 w1 H locs hw hP hD hS => ?_)
  obtain ⟨hq_, hw⟩ := hw; subst hw; subst hq_
  obtain ⟨s5, hs6, hB⟩ := letS_inv hB
  refine q_iast (f2 := (upd (s3.f 40) 1 r4)) (w2 := (mwS cB cI cJ cZ h a s5)) C hK hP hD hS 25 1 rfl rfl (vp_lit (by decide +kernel)) dX11_needsOf_21 rfl (mwS_f40 hs6) (fun H locs hP hD hS => ?_)
  refine lv_aload_n hx hb dX11_needsOf_22 rfl (lv_at hl 0 rfl) ?_
  refine lv_iconst (v := 0) hx hb dX11_needsOf_23 (by decide) ?_
  refine lv_aload_n hx hb dX11_needsOf_24 rfl (lv_at hl 0 rfl) ?_
  refine q_get (v := .ref (a 40)) C inX11_needsOf_X11 hK hP 0 rfl rfl 40 (by decide) rfl LX11_needsOf_92 rfl dX11_needsOf_25 ?_
  refine lv_iconst (v := 2) hx hb dX11_needsOf_28 (by decide) ?_
  refine q_iald (x := (s5.f 40 2)) C hK hP 25 1 rfl rfl (vp_lit (by decide +kernel)) dX11_needsOf_29 rfl ?_
  obtain ⟨q_, s7, hc, hB⟩ := bindI_inv hB
  refine q_goiF (va_runV (As := [.int 0, .int (s5.f 40 2)]) (rest := []) C (cr_lawTells hc _) (cwV 2 hts gX11_needsOf_X11_lawTells rfl rfl rfl (by decide +kernel) ⟨Nat.le_of_ble_eq_true rfl, Nat.le_of_ble_eq_true rfl⟩) (q_preV hK hP (ci := 11) (q0 := 0) rfl rfl rfl (q_preF hN hK hP hD)) rfl rfl hl.1 rfl (lv_room (Nat.le_of_ble_eq_true rfl)) dX11_needsOf_30 ⟨Nat.le_of_ble_eq_true rfl, Nat.le_of_ble_eq_true rfl⟩) hD hS hA (fun r8 w1 H locs hw hP hD hS => ?_)
  obtain ⟨hq_, hw⟩ := hw; subst hw; subst hq_
  refine lv_iconst (v := 0) hx hb dX11_needsOf_33 (by decide) ?_
  refine lv_bipush (v := 9) hx hb dX11_needsOf_34 (by decide) ?_
  obtain ⟨q_, hc, hB⟩ := bindP_inv hB
  refine q_goi0 (va_runS (As := [.int r8, .int 0, .int 9]) (rest := []) C (cr_within hc _) (va_cwS 3 hts gX11_needsOf_X11_within rfl rfl rfl (by decide +kernel) ⟨Nat.le_of_ble_eq_true rfl, Nat.le_of_ble_eq_true rfl⟩) (q_pre0 hN hK) rfl rfl hl.1 rfl (lv_room (Nat.le_of_ble_eq_true rfl)) dX11_needsOf_36 ⟨Nat.le_of_ble_eq_true rfl, Nat.le_of_ble_eq_true rfl⟩) hP hD hS hA (fun r9 w1 H locs hw hP hS => ?_)
  subst hw
  exact q_iret C hr hlocks hK hP hD hS (Nat.le_of_ble_eq_true rfl) (Nat.le_of_ble_eq_true rfl) dX11_needsOf_39 (by cases hB; exact ⟨rfl, rfl⟩)
theorem cr_needsOf {l : Launch} {dC : Nat → ClassId} {dI : Nat → Nat → Nat} {cB cI cJ cZ cS : ClassId} {h : Nat} {a : Nat → Nat} {r : Int32} {s' : RS} {s : RS} {x1 : Int32} {x2 : Int32} {x3 : Int32} (hB : r_needsOf s x1 x2 x3 = some (r, s')) : CI l yX11_needsOf wsX11_needsOf ({ frames := 3, cells := 0, slots := 0, locals := 66 }) (dC, dI) (tysA cB cI cJ cZ cS) (mwS cB cI cJ cZ h a s) [.ref h, .int x1, .int x2, .int x3] (fun x u => x = r ∧ u = (mwS cB cI cJ cZ h a s')) :=
  CI_of (cc := cX11_needsOf) (maxL := 4) (ret := (some .int)) (by decide) rfl (Nat.le_of_ble_eq_true rfl) (br_needsOf _ _ _ _ hB)
set_option maxHeartbeats 4000000 in
set_option maxRecDepth 100000 in
theorem br_faresOf {l : Launch} {dC : Nat → ClassId} {dI : Nat → Nat → Nat} {cB cI cJ cZ cS : ClassId} {h : Nat} {a : Nat → Nat} {as : List Value} {r : Int32} {s' : RS} (s : RS) (x1 : Int32) (hB : r_faresOf s x1 = some (r, s')) : BlkI l yX11_faresOf wsX11_faresOf ({ frames := 2, cells := 0, slots := 0, locals := 53 }) cX11_faresOf 2 (some .int) (dC, dI) (tysA cB cI cJ cZ cS) as 0 (mwS cB cI cJ cZ h a s) [(0, .ref h), (1, .int x1)] [] (fun x u => x = r ∧ u = (mwS cB cI cJ cZ h a s')) := by
  intro p e s0 m below meth c A E H locs ls hP hD hS hl
  obtain ⟨C, hr, hlocks, hA, hK, hN⟩ := id E
  obtain ⟨hx, hb, hml, hown, hts⟩ := id C
  unfold r_faresOf at hB
  refine lv_aload_n hx hb dX11_faresOf_0 rfl (lv_at hl 0 rfl) ?_
  refine lv_iload_n hx hb dX11_faresOf_1 rfl (lv_at hl 1 rfl) ?_
  obtain ⟨s1, hc, hB⟩ := bindP_inv hB
  refine q_govF (va_runV (As := [.int x1]) (rest := []) C (cr_looks hc _) (cwV 1 hts gX11_faresOf_X11_looks rfl rfl rfl (by decide +kernel) ⟨Nat.le_of_ble_eq_true rfl, Nat.le_of_ble_eq_true rfl⟩) (q_preV hK hP (ci := 11) (q0 := 0) rfl rfl rfl (q_preF hN hK hP hD)) rfl rfl hl.1 rfl (lv_room (Nat.le_of_ble_eq_true rfl)) dX11_faresOf_2 ⟨Nat.le_of_ble_eq_true rfl, Nat.le_of_ble_eq_true rfl⟩) hD hS hA (fun w1 H locs hw hP hD hS => ?_)
  subst hw
  refine lv_aload_n hx hb dX11_faresOf_5 rfl (lv_at hl 0 rfl) ?_
  refine lv_iconst (v := 1) hx hb dX11_faresOf_6 (by decide) ?_
  refine lv_iconst (v := 1) hx hb dX11_faresOf_7 (by decide) ?_
  obtain ⟨q_, s2, hc, hB⟩ := bindI_inv hB
  refine q_goiF (va_runV (As := [.int 1, .int 1]) (rest := []) C (cr_lawTells hc _) (cwV 2 hts gX11_faresOf_X11_lawTells rfl rfl rfl (by decide +kernel) ⟨Nat.le_of_ble_eq_true rfl, Nat.le_of_ble_eq_true rfl⟩) (q_preV hK hP (ci := 11) (q0 := 0) rfl rfl rfl (q_preF hN hK hP hD)) rfl rfl hl.1 rfl (lv_room (Nat.le_of_ble_eq_true rfl)) dX11_faresOf_8 ⟨Nat.le_of_ble_eq_true rfl, Nat.le_of_ble_eq_true rfl⟩) hD hS hA (fun r3 w1 H locs hw hP hD hS => ?_)
  obtain ⟨hq_, hw⟩ := hw; subst hw; subst hq_
  refine lv_iconst (v := 0) hx hb dX11_faresOf_11 (by decide) ?_
  refine lv_bipush (v := 99) hx hb dX11_faresOf_12 (by decide) ?_
  obtain ⟨q_, hc, hB⟩ := bindP_inv hB
  refine q_goi0 (va_runS (As := [.int r3, .int 0, .int 99]) (rest := []) C (cr_within hc _) (va_cwS 3 hts gX11_faresOf_X11_within rfl rfl rfl (by decide +kernel) ⟨Nat.le_of_ble_eq_true rfl, Nat.le_of_ble_eq_true rfl⟩) (q_pre0 hN hK) rfl rfl hl.1 rfl (lv_room (Nat.le_of_ble_eq_true rfl)) dX11_faresOf_14 ⟨Nat.le_of_ble_eq_true rfl, Nat.le_of_ble_eq_true rfl⟩) hP hD hS hA (fun r4 w1 H locs hw hP hS => ?_)
  subst hw
  exact q_iret C hr hlocks hK hP hD hS (Nat.le_of_ble_eq_true rfl) (Nat.le_of_ble_eq_true rfl) dX11_faresOf_17 (by cases hB; exact ⟨rfl, rfl⟩)
theorem cr_faresOf {l : Launch} {dC : Nat → ClassId} {dI : Nat → Nat → Nat} {cB cI cJ cZ cS : ClassId} {h : Nat} {a : Nat → Nat} {r : Int32} {s' : RS} {s : RS} {x1 : Int32} (hB : r_faresOf s x1 = some (r, s')) : CI l yX11_faresOf wsX11_faresOf ({ frames := 2, cells := 0, slots := 0, locals := 53 }) (dC, dI) (tysA cB cI cJ cZ cS) (mwS cB cI cJ cZ h a s) [.ref h, .int x1] (fun x u => x = r ∧ u = (mwS cB cI cJ cZ h a s')) :=
  CI_of (cc := cX11_faresOf) (maxL := 2) (ret := (some .int)) (by decide) rfl (Nat.le_of_ble_eq_true rfl) (br_faresOf _ _ hB)
set_option maxHeartbeats 4000000 in
set_option maxRecDepth 100000 in
theorem br_doesDare {l : Launch} {dC : Nat → ClassId} {dI : Nat → Nat → Nat} {cB cI cJ cZ cS : ClassId} {h : Nat} {a : Nat → Nat} {as : List Value} {r : Int32} {s' : RS} (s : RS) (x1 : Int32) (hB : r_doesDare s x1 = some (r, s')) : BlkI l yX11_doesDare wsX11_doesDare ({ frames := 2, cells := 0, slots := 0, locals := 53 }) cX11_doesDare 2 (some .boolean) (dC, dI) (tysA cB cI cJ cZ cS) as 0 (mwS cB cI cJ cZ h a s) [(0, .ref h), (1, .int x1)] [] (fun x u => x = r ∧ u = (mwS cB cI cJ cZ h a s')) := by
  intro p e s0 m below meth c A E H locs ls hP hD hS hl
  obtain ⟨C, hr, hlocks, hA, hK, hN⟩ := id E
  obtain ⟨hx, hb, hml, hown, hts⟩ := id C
  unfold r_doesDare at hB
  refine lv_aload_n hx hb dX11_doesDare_0 rfl (lv_at hl 0 rfl) ?_
  refine lv_iload_n hx hb dX11_doesDare_1 rfl (lv_at hl 1 rfl) ?_
  obtain ⟨s1, hc, hB⟩ := bindP_inv hB
  refine q_govF (va_runV (As := [.int x1]) (rest := []) C (cr_looks hc _) (cwV 1 hts gX11_doesDare_X11_looks rfl rfl rfl (by decide +kernel) ⟨Nat.le_of_ble_eq_true rfl, Nat.le_of_ble_eq_true rfl⟩) (q_preV hK hP (ci := 11) (q0 := 0) rfl rfl rfl (q_preF hN hK hP hD)) rfl rfl hl.1 rfl (lv_room (Nat.le_of_ble_eq_true rfl)) dX11_doesDare_2 ⟨Nat.le_of_ble_eq_true rfl, Nat.le_of_ble_eq_true rfl⟩) hD hS hA (fun w1 H locs hw hP hD hS => ?_)
  subst hw
  refine lv_aload_n hx hb dX11_doesDare_5 rfl (lv_at hl 0 rfl) ?_
  refine lv_iconst (v := 2) hx hb dX11_doesDare_6 (by decide) ?_
  refine lv_iconst (v := 1) hx hb dX11_doesDare_7 (by decide) ?_
  obtain ⟨q_, s2, hc, hB⟩ := bindI_inv hB
  refine q_goiF (va_runV (As := [.int 2, .int 1]) (rest := []) C (cr_lawTells hc _) (cwV 2 hts gX11_doesDare_X11_lawTells rfl rfl rfl (by decide +kernel) ⟨Nat.le_of_ble_eq_true rfl, Nat.le_of_ble_eq_true rfl⟩) (q_preV hK hP (ci := 11) (q0 := 0) rfl rfl rfl (q_preF hN hK hP hD)) rfl rfl hl.1 rfl (lv_room (Nat.le_of_ble_eq_true rfl)) dX11_doesDare_8 ⟨Nat.le_of_ble_eq_true rfl, Nat.le_of_ble_eq_true rfl⟩) hD hS hA (fun r3 w1 H locs hw hP hD hS => ?_)
  obtain ⟨hq_, hw⟩ := hw; subst hw; subst hq_
  refine lv_if_le (tgt := 18) hx hb dX11_doesDare_11 (by decide) (fun c4 => ?_) (fun c4 => ?_)
  · have hB := if_p hB c4
    refine lv_iconst (v := 0) hx hb dX11_doesDare_18 (by decide) ?_
    exact q_zret C hr hlocks (Or.inl rfl) hK hP hD hS (Nat.le_of_ble_eq_true rfl) (Nat.le_of_ble_eq_true rfl) dX11_doesDare_19 (by cases hB; exact ⟨rfl, rfl⟩)
  · have hB := if_n hB c4
    refine lv_iconst (v := 1) hx hb dX11_doesDare_14 (by decide) ?_
    refine lv_goto (tgt := 19) hx hb dX11_doesDare_15 (by decide) ?_
    exact q_zret C hr hlocks (Or.inr rfl) hK hP hD hS (Nat.le_of_ble_eq_true rfl) (Nat.le_of_ble_eq_true rfl) dX11_doesDare_19 (by cases hB; exact ⟨rfl, rfl⟩)
theorem cr_doesDare {l : Launch} {dC : Nat → ClassId} {dI : Nat → Nat → Nat} {cB cI cJ cZ cS : ClassId} {h : Nat} {a : Nat → Nat} {r : Int32} {s' : RS} {s : RS} {x1 : Int32} (hB : r_doesDare s x1 = some (r, s')) : CI l yX11_doesDare wsX11_doesDare ({ frames := 2, cells := 0, slots := 0, locals := 53 }) (dC, dI) (tysA cB cI cJ cZ cS) (mwS cB cI cJ cZ h a s) [.ref h, .int x1] (fun x u => x = r ∧ u = (mwS cB cI cJ cZ h a s')) :=
  CI_of (cc := cX11_doesDare) (maxL := 2) (ret := (some .boolean)) (by decide) rfl (Nat.le_of_ble_eq_true rfl) (br_doesDare _ _ hB)
set_option maxHeartbeats 4000000 in
set_option maxRecDepth 100000 in
theorem br_shiftsOf {l : Launch} {dC : Nat → ClassId} {dI : Nat → Nat → Nat} {cB cI cJ cZ cS : ClassId} {h : Nat} {a : Nat → Nat} {as : List Value} {r : Int32} {s' : RS} (s : RS) (x1 : Int32) (hB : r_shiftsOf s x1 = some (r, s')) : BlkI l yX11_shiftsOf wsX11_shiftsOf ({ frames := 3, cells := 0, slots := 0, locals := 66 }) cX11_shiftsOf 2 (some .int) (dC, dI) (tysA cB cI cJ cZ cS) as 0 (mwS cB cI cJ cZ h a s) [(0, .ref h), (1, .int x1)] [] (fun x u => x = r ∧ u = (mwS cB cI cJ cZ h a s')) := by
  intro p e s0 m below meth c A E H locs ls hP hD hS hl
  obtain ⟨C, hr, hlocks, hA, hK, hN⟩ := id E
  obtain ⟨hx, hb, hml, hown, hts⟩ := id C
  unfold r_shiftsOf at hB
  refine lv_aload_n hx hb dX11_shiftsOf_0 rfl (lv_at hl 0 rfl) ?_
  refine lv_iconst (v := (-1)) hx hb dX11_shiftsOf_1 (by decide) ?_
  obtain ⟨s1, hc, hB⟩ := bindP_inv hB
  refine q_govF (va_runV (As := [.int (-1)]) (rest := []) C (cr_looks hc _) (cwV 1 hts gX11_shiftsOf_X11_looks rfl rfl rfl (by decide +kernel) ⟨Nat.le_of_ble_eq_true rfl, Nat.le_of_ble_eq_true rfl⟩) (q_preV hK hP (ci := 11) (q0 := 0) rfl rfl rfl (q_preF hN hK hP hD)) rfl rfl hl.1 rfl (lv_room (Nat.le_of_ble_eq_true rfl)) dX11_shiftsOf_2 ⟨Nat.le_of_ble_eq_true rfl, Nat.le_of_ble_eq_true rfl⟩) hD hS hA (fun w1 H locs hw hP hD hS => ?_)
  subst hw
  refine lv_aload_n hx hb dX11_shiftsOf_5 rfl (lv_at hl 0 rfl) ?_
  refine lv_iload_n hx hb dX11_shiftsOf_6 rfl (lv_at hl 1 rfl) ?_
  obtain ⟨s2, hc, hB⟩ := bindP_inv hB
  refine q_govF (va_runV (As := [.int x1]) (rest := []) C (cr_looksOver hc _) (cwV 1 hts gX11_shiftsOf_X11_looksOver rfl rfl rfl (by decide +kernel) ⟨Nat.le_of_ble_eq_true rfl, Nat.le_of_ble_eq_true rfl⟩) (q_preV hK hP (ci := 11) (q0 := 0) rfl rfl rfl (q_preF hN hK hP hD)) rfl rfl hl.1 rfl (lv_room (Nat.le_of_ble_eq_true rfl)) dX11_shiftsOf_7 ⟨Nat.le_of_ble_eq_true rfl, Nat.le_of_ble_eq_true rfl⟩) hD hS hA (fun w1 H locs hw hP hD hS => ?_)
  subst hw
  refine lv_aload_n hx hb dX11_shiftsOf_10 rfl (lv_at hl 0 rfl) ?_
  refine lv_iconst (v := 3) hx hb dX11_shiftsOf_11 (by decide) ?_
  refine lv_iconst (v := 0) hx hb dX11_shiftsOf_12 (by decide) ?_
  obtain ⟨q_, s3, hc, hB⟩ := bindI_inv hB
  refine q_goiF (va_runV (As := [.int 3, .int 0]) (rest := []) C (cr_lawTells hc _) (cwV 2 hts gX11_shiftsOf_X11_lawTells rfl rfl rfl (by decide +kernel) ⟨Nat.le_of_ble_eq_true rfl, Nat.le_of_ble_eq_true rfl⟩) (q_preV hK hP (ci := 11) (q0 := 0) rfl rfl rfl (q_preF hN hK hP hD)) rfl rfl hl.1 rfl (lv_room (Nat.le_of_ble_eq_true rfl)) dX11_shiftsOf_13 ⟨Nat.le_of_ble_eq_true rfl, Nat.le_of_ble_eq_true rfl⟩) hD hS hA (fun r4 w1 H locs hw hP hD hS => ?_)
  obtain ⟨hq_, hw⟩ := hw; subst hw; subst hq_
  refine lv_iconst (v := 0) hx hb dX11_shiftsOf_16 (by decide) ?_
  refine lv_bipush (v := 100) hx hb dX11_shiftsOf_17 (by decide) ?_
  obtain ⟨q_, hc, hB⟩ := bindP_inv hB
  refine q_goi0 (va_runS (As := [.int r4, .int 0, .int 100]) (rest := []) C (cr_within hc _) (va_cwS 3 hts gX11_shiftsOf_X11_within rfl rfl rfl (by decide +kernel) ⟨Nat.le_of_ble_eq_true rfl, Nat.le_of_ble_eq_true rfl⟩) (q_pre0 hN hK) rfl rfl hl.1 rfl (lv_room (Nat.le_of_ble_eq_true rfl)) dX11_shiftsOf_19 ⟨Nat.le_of_ble_eq_true rfl, Nat.le_of_ble_eq_true rfl⟩) hP hD hS hA (fun r5 w1 H locs hw hP hS => ?_)
  subst hw
  exact q_iret C hr hlocks hK hP hD hS (Nat.le_of_ble_eq_true rfl) (Nat.le_of_ble_eq_true rfl) dX11_shiftsOf_22 (by cases hB; exact ⟨rfl, rfl⟩)
theorem cr_shiftsOf {l : Launch} {dC : Nat → ClassId} {dI : Nat → Nat → Nat} {cB cI cJ cZ cS : ClassId} {h : Nat} {a : Nat → Nat} {r : Int32} {s' : RS} {s : RS} {x1 : Int32} (hB : r_shiftsOf s x1 = some (r, s')) : CI l yX11_shiftsOf wsX11_shiftsOf ({ frames := 3, cells := 0, slots := 0, locals := 66 }) (dC, dI) (tysA cB cI cJ cZ cS) (mwS cB cI cJ cZ h a s) [.ref h, .int x1] (fun x u => x = r ∧ u = (mwS cB cI cJ cZ h a s')) :=
  CI_of (cc := cX11_shiftsOf) (maxL := 2) (ret := (some .int)) (by decide) rfl (Nat.le_of_ble_eq_true rfl) (br_shiftsOf _ _ hB)
set_option maxHeartbeats 4000000 in
set_option maxRecDepth 100000 in
theorem br_doesBear {l : Launch} {dC : Nat → ClassId} {dI : Nat → Nat → Nat} {cB cI cJ cZ cS : ClassId} {h : Nat} {a : Nat → Nat} {as : List Value} {r : Int32} {s' : RS} (s : RS) (x1 : Int32) (x2 : Int32) (x3 : Int32) (hB : r_doesBear s x1 x2 x3 = some (r, s')) : BlkI l yX11_doesBear wsX11_doesBear ({ frames := 4, cells := 0, slots := 0, locals := 89 }) cX11_doesBear 4 (some .boolean) (dC, dI) (tysA cB cI cJ cZ cS) as 0 (mwS cB cI cJ cZ h a s) [(0, .ref h), (1, .int x1), (2, .int x2), (3, .int x3)] [] (fun x u => x = r ∧ u = (mwS cB cI cJ cZ h a s')) := by
  intro p e s0 m below meth c A E H locs ls hP hD hS hl
  obtain ⟨C, hr, hlocks, hA, hK, hN⟩ := id E
  obtain ⟨hx, hb, hml, hown, hts⟩ := id C
  unfold r_doesBear at hB
  refine lv_aload_n hx hb dX11_doesBear_0 rfl (lv_at hl 0 rfl) ?_
  refine lv_iload_n hx hb dX11_doesBear_1 rfl (lv_at hl 2 rfl) ?_
  refine lv_iload_n hx hb dX11_doesBear_2 rfl (lv_at hl 3 rfl) ?_
  obtain ⟨q_, s1, hc, hB⟩ := bindI_inv hB
  refine q_goiF (va_runV (As := [.int x2, .int x3]) (rest := []) C (cr_oddsAt hc _) (cwV 2 hts gX11_doesBear_X11_oddsAt rfl rfl rfl (by decide +kernel) ⟨Nat.le_of_ble_eq_true rfl, Nat.le_of_ble_eq_true rfl⟩) (q_preV hK hP (ci := 11) (q0 := 0) rfl rfl rfl (q_preF hN hK hP hD)) rfl rfl hl.1 rfl (lv_room (Nat.le_of_ble_eq_true rfl)) dX11_doesBear_3 ⟨Nat.le_of_ble_eq_true rfl, Nat.le_of_ble_eq_true rfl⟩) hD hS hA (fun r2 w1 H locs hw hP hD hS => ?_)
  obtain ⟨hq_, hw⟩ := hw; subst hw; subst hq_
  refine lv_aload_n hx hb dX11_doesBear_6 rfl (lv_at hl 0 rfl) ?_
  refine lv_iload_n hx hb dX11_doesBear_7 rfl (lv_at hl 1 rfl) ?_
  refine lv_iload_n hx hb dX11_doesBear_8 rfl (lv_at hl 2 rfl) ?_
  refine lv_iload_n hx hb dX11_doesBear_9 rfl (lv_at hl 3 rfl) ?_
  obtain ⟨q_, s3, hc, hB⟩ := bindI_inv hB
  refine q_goiF (va_runV (As := [.int x1, .int x2, .int x3]) (rest := [.int r2]) C (cr_needsOf hc _) (cwV 3 hts gX11_doesBear_X11_needsOf rfl rfl rfl (by decide +kernel) ⟨Nat.le_of_ble_eq_true rfl, Nat.le_of_ble_eq_true rfl⟩) (q_preV hK hP (ci := 11) (q0 := 0) rfl rfl rfl (q_preF hN hK hP hD)) rfl rfl hl.1 rfl (lv_room (Nat.le_of_ble_eq_true rfl)) dX11_doesBear_10 ⟨Nat.le_of_ble_eq_true rfl, Nat.le_of_ble_eq_true rfl⟩) hD hS hA (fun r4 w1 H locs hw hP hD hS => ?_)
  obtain ⟨hq_, hw⟩ := hw; subst hw; subst hq_
  refine lv_icmp_lt (tgt := 20) hx hb dX11_doesBear_13 (by decide) (fun c5 => ?_) (fun c5 => ?_)
  · have hB := if_p hB c5
    refine lv_iconst (v := 0) hx hb dX11_doesBear_20 (by decide) ?_
    exact q_zret C hr hlocks (Or.inl rfl) hK hP hD hS (Nat.le_of_ble_eq_true rfl) (Nat.le_of_ble_eq_true rfl) dX11_doesBear_21 (by cases hB; exact ⟨rfl, rfl⟩)
  · have hB := if_n hB c5
    refine lv_iconst (v := 1) hx hb dX11_doesBear_16 (by decide) ?_
    refine lv_goto (tgt := 21) hx hb dX11_doesBear_17 (by decide) ?_
    exact q_zret C hr hlocks (Or.inr rfl) hK hP hD hS (Nat.le_of_ble_eq_true rfl) (Nat.le_of_ble_eq_true rfl) dX11_doesBear_21 (by cases hB; exact ⟨rfl, rfl⟩)
theorem cr_doesBear {l : Launch} {dC : Nat → ClassId} {dI : Nat → Nat → Nat} {cB cI cJ cZ cS : ClassId} {h : Nat} {a : Nat → Nat} {r : Int32} {s' : RS} {s : RS} {x1 : Int32} {x2 : Int32} {x3 : Int32} (hB : r_doesBear s x1 x2 x3 = some (r, s')) : CI l yX11_doesBear wsX11_doesBear ({ frames := 4, cells := 0, slots := 0, locals := 89 }) (dC, dI) (tysA cB cI cJ cZ cS) (mwS cB cI cJ cZ h a s) [.ref h, .int x1, .int x2, .int x3] (fun x u => x = r ∧ u = (mwS cB cI cJ cZ h a s')) :=
  CI_of (cc := cX11_doesBear) (maxL := 4) (ret := (some .boolean)) (by decide) rfl (Nat.le_of_ble_eq_true rfl) (br_doesBear _ _ _ _ hB)
theorem LX11_bearsBy_215 : Cond.fieldLink RX11 215 "GuessFerryModel" "live" "I" ∈ wsX11_bearsBy := by decide +kernel
theorem LX11_bearsBy_40 : Cond.fieldLink RX11 40 "GuessFerryModel" "waves" "[I" ∈ wsX11_bearsBy := by decide +kernel
theorem inX11_bearsBy_X11 : ∀ w ∈ u_ws RX11 TX11 58, w ∈ wsX11_bearsBy := by decide +kernel
set_option maxHeartbeats 4000000 in
set_option maxRecDepth 100000 in
theorem br_bearsBy_2 {l : Launch} {dC : Nat → ClassId} {dI : Nat → Nat → Nat} {cB cI cJ cZ cS : ClassId} {h : Nat} {a : Nat → Nat} {as : List Value} {r : Int32} {s' : RS} {k2 : RS → Int32 → Int32 → Int32 → Option (Int32 × RS)} (hk2 : ∀ (s : RS) (x1 : Int32) (x2 : Int32) (x3 : Int32), k2 s x1 x2 x3 = some (r, s') → BlkI l yX11_bearsBy wsX11_bearsBy ({ frames := 5, cells := 0, slots := 0, locals := 112 }) cX11_bearsBy 4 (some .int) (dC, dI) (tysA cB cI cJ cZ cS) as 2 (mwS cB cI cJ cZ h a s) [(0, .ref h), (1, .int x1), (2, .int x2), (3, .int x3)] [] (fun x u => x = r ∧ u = (mwS cB cI cJ cZ h a s'))) (s : RS) (x1 : Int32) (x2 : Int32) (x3 : Int32) (hB : r_bearsBy_2 k2 s x1 x2 x3 = some (r, s')) : BlkI l yX11_bearsBy wsX11_bearsBy ({ frames := 5, cells := 0, slots := 0, locals := 112 }) cX11_bearsBy 4 (some .int) (dC, dI) (tysA cB cI cJ cZ cS) as 2 (mwS cB cI cJ cZ h a s) [(0, .ref h), (1, .int x1), (2, .int x2), (3, .int x3)] [] (fun x u => x = r ∧ u = (mwS cB cI cJ cZ h a s')) := by
  intro p e s0 m below meth c A E H locs ls hP hD hS hl
  obtain ⟨C, hr, hlocks, hA, hK, hN⟩ := id E
  obtain ⟨hx, hb, hml, hown, hts⟩ := id C
  unfold r_bearsBy_2 at hB
  refine lv_iload_n hx hb dX11_bearsBy_2 rfl (lv_at hl 3 rfl) ?_
  refine lv_aload_n hx hb dX11_bearsBy_3 rfl (lv_at hl 0 rfl) ?_
  refine q_get (v := .ref (a 20)) C inX11_bearsBy_X11 hK hP 0 rfl rfl 20 (by decide) rfl LX11_bearsBy_40 rfl dX11_bearsBy_4 ?_
  refine lv_aload_n hx hb dX11_bearsBy_7 rfl (lv_at hl 0 rfl) ?_
  refine q_get (v := .int (s.v 18)) C inX11_bearsBy_X11 hK hP 0 rfl rfl 18 (by decide) rfl LX11_bearsBy_215 rfl dX11_bearsBy_8 ?_
  obtain ⟨g1, hB⟩ := guard_inv hB
  refine q_iald (x := (s.f 20 (Int32.toNatClampNeg (s.v 18)))) C hK hP 8 1 rfl rfl (vpb_in g1) dX11_bearsBy_11 rfl ?_
  refine lv_icmp_ge (tgt := 36) hx hb dX11_bearsBy_12 (by decide) (fun c2 => ?_) (fun c2 => ?_)
  · have hB := if_p hB c2
    refine lv_iload_n hx hb dX11_bearsBy_36 rfl (lv_at hl 3 rfl) ?_
    exact q_iret C hr hlocks hK hP hD hS (Nat.le_of_ble_eq_true rfl) (Nat.le_of_ble_eq_true rfl) dX11_bearsBy_37 (by cases hB; exact ⟨rfl, rfl⟩)
  · have hB := if_n hB c2
    refine lv_aload_n hx hb dX11_bearsBy_15 rfl (lv_at hl 0 rfl) ?_
    refine lv_iload_n hx hb dX11_bearsBy_16 rfl (lv_at hl 1 rfl) ?_
    refine lv_iload_n hx hb dX11_bearsBy_17 rfl (lv_at hl 3 rfl) ?_
    refine lv_aload_n hx hb dX11_bearsBy_18 rfl (lv_at hl 0 rfl) ?_
    refine lv_iload_n hx hb dX11_bearsBy_19 rfl (lv_at hl 2 rfl) ?_
    refine lv_iload_n hx hb dX11_bearsBy_20 rfl (lv_at hl 3 rfl) ?_
    obtain ⟨q_, s3, hc, hB⟩ := bindI_inv hB
    refine q_goiF (va_runV (As := [.int x2, .int x3]) (rest := [.int x3, .int x1, .ref h]) C (cr_thingAt hc _) (cwV 2 hts gX11_bearsBy_X11_thingAt rfl rfl rfl (by decide +kernel) ⟨Nat.le_of_ble_eq_true rfl, Nat.le_of_ble_eq_true rfl⟩) (q_preV hK hP (ci := 11) (q0 := 0) rfl rfl rfl (q_preF hN hK hP hD)) rfl rfl hl.1 rfl (lv_room (Nat.le_of_ble_eq_true rfl)) dX11_bearsBy_21 ⟨Nat.le_of_ble_eq_true rfl, Nat.le_of_ble_eq_true rfl⟩) hD hS hA (fun r4 w1 H locs hw hP hD hS => ?_)
    obtain ⟨hq_, hw⟩ := hw; subst hw; subst hq_
    obtain ⟨q_, s5, hc, hB⟩ := bindI_inv hB
    refine q_goiF (va_runV (As := [.int x1, .int x3, .int r4]) (rest := []) C (cr_doesBear hc _) (cwV 3 hts gX11_bearsBy_X11_doesBear rfl rfl rfl (by decide +kernel) ⟨Nat.le_of_ble_eq_true rfl, Nat.le_of_ble_eq_true rfl⟩) (q_preV hK hP (ci := 11) (q0 := 0) rfl rfl rfl (q_preF hN hK hP hD)) rfl rfl hl.1 rfl (lv_room (Nat.le_of_ble_eq_true rfl)) dX11_bearsBy_24 ⟨Nat.le_of_ble_eq_true rfl, Nat.le_of_ble_eq_true rfl⟩) hD hS hA (fun r6 w1 H locs hw hP hD hS => ?_)
    obtain ⟨hq_, hw⟩ := hw; subst hw; subst hq_
    refine lv_if_eq (tgt := 36) hx hb dX11_bearsBy_27 (by decide) (fun c7 => ?_) (fun c7 => ?_)
    · have hB := if_p hB c7
      refine lv_iload_n hx hb dX11_bearsBy_36 rfl (lv_at hl 3 rfl) ?_
      exact q_iret C hr hlocks hK hP hD hS (Nat.le_of_ble_eq_true rfl) (Nat.le_of_ble_eq_true rfl) dX11_bearsBy_37 (by cases hB; exact ⟨rfl, rfl⟩)
    · have hB := if_n hB c7
      refine lv_iinc (v := (x3 + 1)) (lv' := [(3, .int (x3 + 1)), (0, .ref h), (1, .int x1), (2, .int x2)]) hx hb dX11_bearsBy_30 hl (k := 3) rfl (rfl) (by decide) rfl (fun ls hl => ?_)
      refine lv_goto (tgt := 2) hx hb dX11_bearsBy_33 (by decide) ?_
      exact hk2 _ _ _ _ hB p e s0 m below meth c A E H locs ls hP hD hS (lv_sub hl [1, 2, 3, 0] rfl)
theorem br_bearsBy_2L {l : Launch} {dC : Nat → ClassId} {dI : Nat → Nat → Nat} {cB cI cJ cZ cS : ClassId} {h : Nat} {a : Nat → Nat} {as : List Value} {r : Int32} {s' : RS} : ∀ (n : Nat) (s : RS) (x1 : Int32) (x2 : Int32) (x3 : Int32), r_bearsBy_2L n s x1 x2 x3 = some (r, s') → BlkI l yX11_bearsBy wsX11_bearsBy ({ frames := 5, cells := 0, slots := 0, locals := 112 }) cX11_bearsBy 4 (some .int) (dC, dI) (tysA cB cI cJ cZ cS) as 2 (mwS cB cI cJ cZ h a s) [(0, .ref h), (1, .int x1), (2, .int x2), (3, .int x3)] [] (fun x u => x = r ∧ u = (mwS cB cI cJ cZ h a s')) := by
  intro n
  induction n with
  | zero => intro s x1 x2 x3 hB; exact none_ne hB
  | succ n ih => intro s x1 x2 x3 hB; exact br_bearsBy_2 ih _ _ _ _ hB
set_option maxHeartbeats 4000000 in
set_option maxRecDepth 100000 in
theorem br_bearsBy {l : Launch} {dC : Nat → ClassId} {dI : Nat → Nat → Nat} {cB cI cJ cZ cS : ClassId} {h : Nat} {a : Nat → Nat} {as : List Value} {r : Int32} {s' : RS} (s : RS) (x1 : Int32) (x2 : Int32) (hB : r_bearsBy s x1 x2 = some (r, s')) : BlkI l yX11_bearsBy wsX11_bearsBy ({ frames := 5, cells := 0, slots := 0, locals := 112 }) cX11_bearsBy 4 (some .int) (dC, dI) (tysA cB cI cJ cZ cS) as 0 (mwS cB cI cJ cZ h a s) [(0, .ref h), (1, .int x1), (2, .int x2)] [] (fun x u => x = r ∧ u = (mwS cB cI cJ cZ h a s')) := by
  intro p e s0 m below meth c A E H locs ls hP hD hS hl
  obtain ⟨C, hr, hlocks, hA, hK, hN⟩ := id E
  obtain ⟨hx, hb, hml, hown, hts⟩ := id C
  unfold r_bearsBy at hB
  refine lv_iconst (v := 0) hx hb dX11_bearsBy_0 (by decide) ?_
  refine lv_istore_n (lv' := [(3, .int 0), (0, .ref h), (1, .int x1), (2, .int x2)]) hx hb dX11_bearsBy_1 rfl hl (by decide) rfl (fun ls hl => ?_)
  exact br_bearsBy_2L fu _ _ _ _ hB p e s0 m below meth c A E H locs ls hP hD hS (lv_sub hl [1, 2, 3, 0] rfl)
theorem cr_bearsBy {l : Launch} {dC : Nat → ClassId} {dI : Nat → Nat → Nat} {cB cI cJ cZ cS : ClassId} {h : Nat} {a : Nat → Nat} {r : Int32} {s' : RS} {s : RS} {x1 : Int32} {x2 : Int32} (hB : r_bearsBy s x1 x2 = some (r, s')) : CI l yX11_bearsBy wsX11_bearsBy ({ frames := 5, cells := 0, slots := 0, locals := 112 }) (dC, dI) (tysA cB cI cJ cZ cS) (mwS cB cI cJ cZ h a s) [.ref h, .int x1, .int x2] (fun x u => x = r ∧ u = (mwS cB cI cJ cZ h a s')) :=
  CI_of (cc := cX11_bearsBy) (maxL := 4) (ret := (some .int)) (by decide) rfl (Nat.le_of_ble_eq_true rfl) (br_bearsBy _ _ _ hB)
