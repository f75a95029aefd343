theorem dX9_isLetter_0 : decode cX9_isLetter 0 = .ok (.iload_n 0, 1) := dc1_26 (by decide +kernel)
theorem dX9_isLetter_1 : decode cX9_isLetter 1 = .ok (.bipush 97, 2) := dcb_16 (n := 97) (by decide +kernel)
theorem dX9_isLetter_3 : decode cX9_isLetter 3 = .ok (.if_icmp .lt 13, 3) := dcs_161 (n := 13) (by decide +kernel)
theorem dX9_isLetter_6 : decode cX9_isLetter 6 = .ok (.iload_n 0, 1) := dc1_26 (by decide +kernel)
theorem dX9_isLetter_7 : decode cX9_isLetter 7 = .ok (.bipush 122, 2) := dcb_16 (n := 122) (by decide +kernel)
theorem dX9_isLetter_9 : decode cX9_isLetter 9 = .ok (.if_icmp .gt 7, 3) := dcs_163 (n := 7) (by decide +kernel)
theorem dX9_isLetter_12 : decode cX9_isLetter 12 = .ok (.iconst 1, 1) := dc1_4 (by decide +kernel)
theorem dX9_isLetter_13 : decode cX9_isLetter 13 = .ok (.goto 4, 3) := dcs_167 (n := 4) (by decide +kernel)
theorem dX9_isLetter_16 : decode cX9_isLetter 16 = .ok (.iconst 0, 1) := dc1_3 (by decide +kernel)
theorem dX9_isLetter_17 : decode cX9_isLetter 17 = .ok (.ireturn, 1) := dc1_172 (by decide +kernel)
theorem dX9_isDigit_0 : decode cX9_isDigit 0 = .ok (.iload_n 0, 1) := dc1_26 (by decide +kernel)
theorem dX9_isDigit_1 : decode cX9_isDigit 1 = .ok (.bipush 48, 2) := dcb_16 (n := 48) (by decide +kernel)
theorem dX9_isDigit_3 : decode cX9_isDigit 3 = .ok (.if_icmp .lt 13, 3) := dcs_161 (n := 13) (by decide +kernel)
theorem dX9_isDigit_6 : decode cX9_isDigit 6 = .ok (.iload_n 0, 1) := dc1_26 (by decide +kernel)
theorem dX9_isDigit_7 : decode cX9_isDigit 7 = .ok (.bipush 57, 2) := dcb_16 (n := 57) (by decide +kernel)
theorem dX9_isDigit_9 : decode cX9_isDigit 9 = .ok (.if_icmp .gt 7, 3) := dcs_163 (n := 7) (by decide +kernel)
theorem dX9_isDigit_12 : decode cX9_isDigit 12 = .ok (.iconst 1, 1) := dc1_4 (by decide +kernel)
theorem dX9_isDigit_13 : decode cX9_isDigit 13 = .ok (.goto 4, 3) := dcs_167 (n := 4) (by decide +kernel)
theorem dX9_isDigit_16 : decode cX9_isDigit 16 = .ok (.iconst 0, 1) := dc1_3 (by decide +kernel)
theorem dX9_isDigit_17 : decode cX9_isDigit 17 = .ok (.ireturn, 1) := dc1_172 (by decide +kernel)
theorem dX9_withLetter_0 : decode cX9_withLetter 0 = .ok (.lload_n 0, 1) := dc1_30 (by decide +kernel)
theorem dX9_withLetter_1 : decode cX9_withLetter 1 = .ok (.iconst 5, 1) := dc1_8 (by decide +kernel)
theorem dX9_withLetter_2 : decode cX9_withLetter 2 = .ok (.lshl, 1) := dc1_121 (by decide +kernel)
theorem dX9_withLetter_3 : decode cX9_withLetter 3 = .ok (.iload_n 2, 1) := dc1_28 (by decide +kernel)
theorem dX9_withLetter_4 : decode cX9_withLetter 4 = .ok (.bipush 97, 2) := dcb_16 (n := 97) (by decide +kernel)
theorem dX9_withLetter_6 : decode cX9_withLetter 6 = .ok (.isub, 1) := dc1_100 (by decide +kernel)
theorem dX9_withLetter_7 : decode cX9_withLetter 7 = .ok (.iconst 1, 1) := dc1_4 (by decide +kernel)
theorem dX9_withLetter_8 : decode cX9_withLetter 8 = .ok (.iadd, 1) := dc1_96 (by decide +kernel)
theorem dX9_withLetter_9 : decode cX9_withLetter 9 = .ok (.i2l, 1) := dc1_133 (by decide +kernel)
theorem dX9_withLetter_10 : decode cX9_withLetter 10 = .ok (.lor, 1) := dc1_129 (by decide +kernel)
theorem dX9_withLetter_11 : decode cX9_withLetter 11 = .ok (.lreturn, 1) := dc1_173 (by decide +kernel)
theorem ggX9_skipBlanks_X7_byteAt : GoodIn wsX9_skipBlanks wsX7_byteAt := gi_sub (fun w h => List.mem_cons_of_mem _ (List.mem_append_left _ (List.mem_append_left _ (List.mem_append_right _ (List.mem_append_left _ h))))) gd_wsX7_byteAt
set_option maxRecDepth 20000 in
theorem gX9_skipBlanks_X7_byteAt_n65 : GoodIn wsX9_skipBlanks (wsX7_byteAt) := ggX9_skipBlanks_X7_byteAt
theorem ggX9_skipBlanks_X9_isBlank : GoodIn wsX9_skipBlanks wsX9_isBlank := gi_sub (fun w h => List.mem_cons_of_mem _ (List.mem_append_left _ (List.mem_append_left _ (List.mem_append_right _ (List.mem_append_right _ h))))) gd_wsX9_isBlank
set_option maxRecDepth 20000 in
theorem gX9_skipBlanks_X9_isBlank : GoodIn wsX9_skipBlanks (va_wsS RX9 69 yX9_isBlank wsX9_isBlank) := goodIn_app (goodIn_of _ (by decide +kernel)) ggX9_skipBlanks_X9_isBlank
theorem dX9_skipBlanks_0 : decode cX9_skipBlanks 0 = .ok (.aload_n 0, 1) := dc1_42 (by decide +kernel)
theorem dX9_skipBlanks_1 : decode cX9_skipBlanks 1 = .ok (.getfield 47, 3) := dcw_180 (by decide +kernel)
theorem dX9_skipBlanks_4 : decode cX9_skipBlanks 4 = .ok (.aload_n 0, 1) := dc1_42 (by decide +kernel)
theorem dX9_skipBlanks_5 : decode cX9_skipBlanks 5 = .ok (.getfield 23, 3) := dcw_180 (by decide +kernel)
theorem dX9_skipBlanks_8 : decode cX9_skipBlanks 8 = .ok (.getfield 61, 3) := dcw_180 (by decide +kernel)
theorem dX9_skipBlanks_11 : decode cX9_skipBlanks 11 = .ok (.if_icmp .ge 33, 3) := dcs_162 (n := 33) (by decide +kernel)
theorem dX9_skipBlanks_14 : decode cX9_skipBlanks 14 = .ok (.aload_n 0, 1) := dc1_42 (by decide +kernel)
theorem dX9_skipBlanks_15 : decode cX9_skipBlanks 15 = .ok (.getfield 23, 3) := dcw_180 (by decide +kernel)
theorem dX9_skipBlanks_18 : decode cX9_skipBlanks 18 = .ok (.aload_n 0, 1) := dc1_42 (by decide +kernel)
theorem dX9_skipBlanks_19 : decode cX9_skipBlanks 19 = .ok (.getfield 47, 3) := dcw_180 (by decide +kernel)
theorem dX9_skipBlanks_22 : decode cX9_skipBlanks 22 = .ok (.invokevirtual 65, 3) := dcw_182 (by decide +kernel)
theorem dX9_skipBlanks_25 : decode cX9_skipBlanks 25 = .ok (.invokestatic 69, 3) := dcw_184 (by decide +kernel)
theorem dX9_skipBlanks_28 : decode cX9_skipBlanks 28 = .ok (.ifCond .eq 16, 3) := dcs_153 (n := 16) (by decide +kernel)
theorem dX9_skipBlanks_31 : decode cX9_skipBlanks 31 = .ok (.aload_n 0, 1) := dc1_42 (by decide +kernel)
theorem dX9_skipBlanks_32 : decode cX9_skipBlanks 32 = .ok (.dup, 1) := dc1_89 (by decide +kernel)
theorem dX9_skipBlanks_33 : decode cX9_skipBlanks 33 = .ok (.getfield 47, 3) := dcw_180 (by decide +kernel)
theorem dX9_skipBlanks_36 : decode cX9_skipBlanks 36 = .ok (.iconst 1, 1) := dc1_4 (by decide +kernel)
theorem dX9_skipBlanks_37 : decode cX9_skipBlanks 37 = .ok (.iadd, 1) := dc1_96 (by decide +kernel)
theorem dX9_skipBlanks_38 : decode cX9_skipBlanks 38 = .ok (.putfield 47, 3) := dcw_181 (by decide +kernel)
theorem dX9_skipBlanks_41 : decode cX9_skipBlanks 41 = .ok (.goto (-41), 3) := dcs_167 (n := 65495) (by decide +kernel)
theorem dX9_skipBlanks_44 : decode cX9_skipBlanks 44 = .ok (.return_, 1) := dc1_177 (by decide +kernel)
theorem ggX9_splitLetters_X7_byteAt : GoodIn wsX9_splitLetters wsX7_byteAt := gi_sub (fun w h => List.mem_cons_of_mem _ (List.mem_append_left _ (List.mem_append_left _ (List.mem_append_right _ (List.mem_append_left _ h))))) gd_wsX7_byteAt
set_option maxRecDepth 20000 in
theorem gX9_splitLetters_X7_byteAt_n65 : GoodIn wsX9_splitLetters (wsX7_byteAt) := ggX9_splitLetters_X7_byteAt
theorem ggX9_splitLetters_X9_isLetter : GoodIn wsX9_splitLetters wsX9_isLetter := gi_sub (fun w h => List.mem_cons_of_mem _ (List.mem_append_left _ (List.mem_append_left _ (List.mem_append_right _ (List.mem_append_right _ (List.mem_append_left _ h)))))) gd_wsX9_isLetter
set_option maxRecDepth 20000 in
theorem gX9_splitLetters_X9_isLetter : GoodIn wsX9_splitLetters (va_wsS RX9 39 yX9_isLetter wsX9_isLetter) := goodIn_app (goodIn_of _ (by decide +kernel)) ggX9_splitLetters_X9_isLetter
theorem ggX9_splitLetters_X9_withLetter : GoodIn wsX9_splitLetters wsX9_withLetter := gi_sub (fun w h => List.mem_cons_of_mem _ (List.mem_append_left _ (List.mem_append_left _ (List.mem_append_right _ (List.mem_append_right _ (List.mem_append_right _ h)))))) gd_wsX9_withLetter
set_option maxRecDepth 20000 in
theorem gX9_splitLetters_X9_withLetter : GoodIn wsX9_splitLetters (va_wsS RX9 43 yX9_withLetter wsX9_withLetter) := goodIn_app (goodIn_of _ (by decide +kernel)) ggX9_splitLetters_X9_withLetter
theorem dX9_splitLetters_0 : decode cX9_splitLetters 0 = .ok (.aload_n 0, 1) := dc1_42 (by decide +kernel)
theorem dX9_splitLetters_1 : decode cX9_splitLetters 1 = .ok (.getfield 47, 3) := dcw_180 (by decide +kernel)
theorem dX9_splitLetters_4 : decode cX9_splitLetters 4 = .ok (.istore_n 1, 1) := dc1_60 (by decide +kernel)
theorem dX9_splitLetters_5 : decode cX9_splitLetters 5 = .ok (.aload_n 0, 1) := dc1_42 (by decide +kernel)
theorem dX9_splitLetters_6 : decode cX9_splitLetters 6 = .ok (.getfield 47, 3) := dcw_180 (by decide +kernel)
theorem dX9_splitLetters_9 : decode cX9_splitLetters 9 = .ok (.aload_n 0, 1) := dc1_42 (by decide +kernel)
theorem dX9_splitLetters_10 : decode cX9_splitLetters 10 = .ok (.getfield 23, 3) := dcw_180 (by decide +kernel)
theorem dX9_splitLetters_13 : decode cX9_splitLetters 13 = .ok (.getfield 61, 3) := dcw_180 (by decide +kernel)
theorem dX9_splitLetters_16 : decode cX9_splitLetters 16 = .ok (.if_icmp .ge 55, 3) := dcs_162 (n := 55) (by decide +kernel)
theorem dX9_splitLetters_19 : decode cX9_splitLetters 19 = .ok (.aload_n 0, 1) := dc1_42 (by decide +kernel)
theorem dX9_splitLetters_20 : decode cX9_splitLetters 20 = .ok (.getfield 23, 3) := dcw_180 (by decide +kernel)
theorem dX9_splitLetters_23 : decode cX9_splitLetters 23 = .ok (.aload_n 0, 1) := dc1_42 (by decide +kernel)
theorem dX9_splitLetters_24 : decode cX9_splitLetters 24 = .ok (.getfield 47, 3) := dcw_180 (by decide +kernel)
theorem dX9_splitLetters_27 : decode cX9_splitLetters 27 = .ok (.invokevirtual 65, 3) := dcw_182 (by decide +kernel)
theorem dX9_splitLetters_30 : decode cX9_splitLetters 30 = .ok (.invokestatic 39, 3) := dcw_184 (by decide +kernel)
theorem dX9_splitLetters_33 : decode cX9_splitLetters 33 = .ok (.ifCond .eq 38, 3) := dcs_153 (n := 38) (by decide +kernel)
theorem dX9_splitLetters_36 : decode cX9_splitLetters 36 = .ok (.aload_n 0, 1) := dc1_42 (by decide +kernel)
theorem dX9_splitLetters_37 : decode cX9_splitLetters 37 = .ok (.aload_n 0, 1) := dc1_42 (by decide +kernel)
theorem dX9_splitLetters_38 : decode cX9_splitLetters 38 = .ok (.getfield 57, 3) := dcw_180 (by decide +kernel)
theorem dX9_splitLetters_41 : decode cX9_splitLetters 41 = .ok (.aload_n 0, 1) := dc1_42 (by decide +kernel)
theorem dX9_splitLetters_42 : decode cX9_splitLetters 42 = .ok (.getfield 23, 3) := dcw_180 (by decide +kernel)
theorem dX9_splitLetters_45 : decode cX9_splitLetters 45 = .ok (.aload_n 0, 1) := dc1_42 (by decide +kernel)
theorem dX9_splitLetters_46 : decode cX9_splitLetters 46 = .ok (.getfield 47, 3) := dcw_180 (by decide +kernel)
theorem dX9_splitLetters_49 : decode cX9_splitLetters 49 = .ok (.invokevirtual 65, 3) := dcw_182 (by decide +kernel)
theorem dX9_splitLetters_52 : decode cX9_splitLetters 52 = .ok (.invokestatic 43, 3) := dcw_184 (by decide +kernel)
theorem dX9_splitLetters_55 : decode cX9_splitLetters 55 = .ok (.putfield 57, 3) := dcw_181 (by decide +kernel)
theorem dX9_splitLetters_58 : decode cX9_splitLetters 58 = .ok (.aload_n 0, 1) := dc1_42 (by decide +kernel)
theorem dX9_splitLetters_59 : decode cX9_splitLetters 59 = .ok (.dup, 1) := dc1_89 (by decide +kernel)
theorem dX9_splitLetters_60 : decode cX9_splitLetters 60 = .ok (.getfield 47, 3) := dcw_180 (by decide +kernel)
theorem dX9_splitLetters_63 : decode cX9_splitLetters 63 = .ok (.iconst 1, 1) := dc1_4 (by decide +kernel)
theorem dX9_splitLetters_64 : decode cX9_splitLetters 64 = .ok (.iadd, 1) := dc1_96 (by decide +kernel)
theorem dX9_splitLetters_65 : decode cX9_splitLetters 65 = .ok (.putfield 47, 3) := dcw_181 (by decide +kernel)
theorem dX9_splitLetters_68 : decode cX9_splitLetters 68 = .ok (.goto (-63), 3) := dcs_167 (n := 65473) (by decide +kernel)
theorem dX9_splitLetters_71 : decode cX9_splitLetters 71 = .ok (.aload_n 0, 1) := dc1_42 (by decide +kernel)
theorem dX9_splitLetters_72 : decode cX9_splitLetters 72 = .ok (.getfield 47, 3) := dcw_180 (by decide +kernel)
theorem dX9_splitLetters_75 : decode cX9_splitLetters 75 = .ok (.iload_n 1, 1) := dc1_27 (by decide +kernel)
theorem dX9_splitLetters_76 : decode cX9_splitLetters 76 = .ok (.isub, 1) := dc1_100 (by decide +kernel)
theorem dX9_splitLetters_77 : decode cX9_splitLetters 77 = .ok (.bipush 8, 2) := dcb_16 (n := 8) (by decide +kernel)
theorem dX9_splitLetters_79 : decode cX9_splitLetters 79 = .ok (.if_icmp .le 7, 3) := dcs_164 (n := 7) (by decide +kernel)
theorem dX9_splitLetters_82 : decode cX9_splitLetters 82 = .ok (.sipush 303, 3) := dcs_17 (n := 303) (by decide +kernel)
theorem dX9_splitLetters_85 : decode cX9_splitLetters 85 = .ok (.ireturn, 1) := dc1_172 (by decide +kernel)
theorem dX9_splitLetters_86 : decode cX9_splitLetters 86 = .ok (.iconst 0, 1) := dc1_3 (by decide +kernel)
theorem dX9_splitLetters_87 : decode cX9_splitLetters 87 = .ok (.istore_n 2, 1) := dc1_61 (by decide +kernel)
theorem dX9_splitLetters_88 : decode cX9_splitLetters 88 = .ok (.iload_n 2, 1) := dc1_28 (by decide +kernel)
theorem dX9_splitLetters_89 : decode cX9_splitLetters 89 = .ok (.bipush 19, 2) := dcb_16 (n := 19) (by decide +kernel)
theorem dX9_splitLetters_91 : decode cX9_splitLetters 91 = .ok (.if_icmp .ge 29, 3) := dcs_162 (n := 29) (by decide +kernel)
theorem dX9_splitLetters_94 : decode cX9_splitLetters 94 = .ok (.aload_n 0, 1) := dc1_42 (by decide +kernel)
theorem dX9_splitLetters_95 : decode cX9_splitLetters 95 = .ok (.getfield 9, 3) := dcw_180 (by decide +kernel)
theorem dX9_splitLetters_98 : decode cX9_splitLetters 98 = .ok (.iload_n 2, 1) := dc1_28 (by decide +kernel)
theorem dX9_splitLetters_99 : decode cX9_splitLetters 99 = .ok (.laload, 1) := dc1_47 (by decide +kernel)
theorem dX9_splitLetters_100 : decode cX9_splitLetters 100 = .ok (.aload_n 0, 1) := dc1_42 (by decide +kernel)
theorem dX9_splitLetters_101 : decode cX9_splitLetters 101 = .ok (.getfield 57, 3) := dcw_180 (by decide +kernel)
theorem dX9_splitLetters_104 : decode cX9_splitLetters 104 = .ok (.lcmp, 1) := dc1_148 (by decide +kernel)
theorem dX9_splitLetters_105 : decode cX9_splitLetters 105 = .ok (.ifCond .ne 9, 3) := dcs_154 (n := 9) (by decide +kernel)
theorem dX9_splitLetters_108 : decode cX9_splitLetters 108 = .ok (.sipush 256, 3) := dcs_17 (n := 256) (by decide +kernel)
theorem dX9_splitLetters_111 : decode cX9_splitLetters 111 = .ok (.iload_n 2, 1) := dc1_28 (by decide +kernel)
theorem dX9_splitLetters_112 : decode cX9_splitLetters 112 = .ok (.iadd, 1) := dc1_96 (by decide +kernel)
theorem dX9_splitLetters_113 : decode cX9_splitLetters 113 = .ok (.ireturn, 1) := dc1_172 (by decide +kernel)
theorem dX9_splitLetters_114 : decode cX9_splitLetters 114 = .ok (.iinc 2 1, 3) := dc_iinc (m := 1) (by decide +kernel)
theorem dX9_splitLetters_117 : decode cX9_splitLetters 117 = .ok (.goto (-29), 3) := dcs_167 (n := 65507) (by decide +kernel)
theorem dX9_splitLetters_120 : decode cX9_splitLetters 120 = .ok (.sipush 300, 3) := dcs_17 (n := 300) (by decide +kernel)
theorem dX9_splitLetters_123 : decode cX9_splitLetters 123 = .ok (.ireturn, 1) := dc1_172 (by decide +kernel)
theorem ggX9_splitDigits_X7_byteAt : GoodIn wsX9_splitDigits wsX7_byteAt := gi_sub (fun w h => List.mem_cons_of_mem _ (List.mem_append_left _ (List.mem_append_left _ (List.mem_append_right _ (List.mem_append_left _ h))))) gd_wsX7_byteAt
set_option maxRecDepth 20000 in
theorem gX9_splitDigits_X7_byteAt_n65 : GoodIn wsX9_splitDigits (wsX7_byteAt) := ggX9_splitDigits_X7_byteAt
theorem ggX9_splitDigits_X9_isDigit : GoodIn wsX9_splitDigits wsX9_isDigit := gi_sub (fun w h => List.mem_cons_of_mem _ (List.mem_append_left _ (List.mem_append_left _ (List.mem_append_right _ (List.mem_append_right _ h))))) gd_wsX9_isDigit
set_option maxRecDepth 20000 in
theorem gX9_splitDigits_X9_isDigit : GoodIn wsX9_splitDigits (va_wsS RX9 75 yX9_isDigit wsX9_isDigit) := goodIn_app (goodIn_of _ (by decide +kernel)) ggX9_splitDigits_X9_isDigit
theorem dX9_splitDigits_0 : decode cX9_splitDigits 0 = .ok (.aload_n 0, 1) := dc1_42 (by decide +kernel)
theorem dX9_splitDigits_1 : decode cX9_splitDigits 1 = .ok (.getfield 47, 3) := dcw_180 (by decide +kernel)
theorem dX9_splitDigits_4 : decode cX9_splitDigits 4 = .ok (.istore_n 1, 1) := dc1_60 (by decide +kernel)
theorem dX9_splitDigits_5 : decode cX9_splitDigits 5 = .ok (.aload_n 0, 1) := dc1_42 (by decide +kernel)
theorem dX9_splitDigits_6 : decode cX9_splitDigits 6 = .ok (.getfield 47, 3) := dcw_180 (by decide +kernel)
theorem dX9_splitDigits_9 : decode cX9_splitDigits 9 = .ok (.aload_n 0, 1) := dc1_42 (by decide +kernel)
theorem dX9_splitDigits_10 : decode cX9_splitDigits 10 = .ok (.getfield 23, 3) := dcw_180 (by decide +kernel)
theorem dX9_splitDigits_13 : decode cX9_splitDigits 13 = .ok (.getfield 61, 3) := dcw_180 (by decide +kernel)
theorem dX9_splitDigits_16 : decode cX9_splitDigits 16 = .ok (.if_icmp .ge 62, 3) := dcs_162 (n := 62) (by decide +kernel)
theorem dX9_splitDigits_19 : decode cX9_splitDigits 19 = .ok (.aload_n 0, 1) := dc1_42 (by decide +kernel)
theorem dX9_splitDigits_20 : decode cX9_splitDigits 20 = .ok (.getfield 23, 3) := dcw_180 (by decide +kernel)
theorem dX9_splitDigits_23 : decode cX9_splitDigits 23 = .ok (.aload_n 0, 1) := dc1_42 (by decide +kernel)
theorem dX9_splitDigits_24 : decode cX9_splitDigits 24 = .ok (.getfield 47, 3) := dcw_180 (by decide +kernel)
theorem dX9_splitDigits_27 : decode cX9_splitDigits 27 = .ok (.invokevirtual 65, 3) := dcw_182 (by decide +kernel)
theorem dX9_splitDigits_30 : decode cX9_splitDigits 30 = .ok (.invokestatic 75, 3) := dcw_184 (by decide +kernel)
theorem dX9_splitDigits_33 : decode cX9_splitDigits 33 = .ok (.ifCond .eq 45, 3) := dcs_153 (n := 45) (by decide +kernel)
theorem dX9_splitDigits_36 : decode cX9_splitDigits 36 = .ok (.aload_n 0, 1) := dc1_42 (by decide +kernel)
theorem dX9_splitDigits_37 : decode cX9_splitDigits 37 = .ok (.aload_n 0, 1) := dc1_42 (by decide +kernel)
theorem dX9_splitDigits_38 : decode cX9_splitDigits 38 = .ok (.getfield 57, 3) := dcw_180 (by decide +kernel)
theorem dX9_splitDigits_41 : decode cX9_splitDigits 41 = .ok (.ldc2_w 86, 3) := dcw_20 (by decide +kernel)
theorem dX9_splitDigits_44 : decode cX9_splitDigits 44 = .ok (.lmul, 1) := dc1_105 (by decide +kernel)
theorem dX9_splitDigits_45 : decode cX9_splitDigits 45 = .ok (.aload_n 0, 1) := dc1_42 (by decide +kernel)
theorem dX9_splitDigits_46 : decode cX9_splitDigits 46 = .ok (.getfield 23, 3) := dcw_180 (by decide +kernel)
theorem dX9_splitDigits_49 : decode cX9_splitDigits 49 = .ok (.aload_n 0, 1) := dc1_42 (by decide +kernel)
theorem dX9_splitDigits_50 : decode cX9_splitDigits 50 = .ok (.getfield 47, 3) := dcw_180 (by decide +kernel)
theorem dX9_splitDigits_53 : decode cX9_splitDigits 53 = .ok (.invokevirtual 65, 3) := dcw_182 (by decide +kernel)
theorem dX9_splitDigits_56 : decode cX9_splitDigits 56 = .ok (.i2l, 1) := dc1_133 (by decide +kernel)
theorem dX9_splitDigits_57 : decode cX9_splitDigits 57 = .ok (.ladd, 1) := dc1_97 (by decide +kernel)
theorem dX9_splitDigits_58 : decode cX9_splitDigits 58 = .ok (.ldc2_w 88, 3) := dcw_20 (by decide +kernel)
theorem dX9_splitDigits_61 : decode cX9_splitDigits 61 = .ok (.lsub, 1) := dc1_101 (by decide +kernel)
theorem dX9_splitDigits_62 : decode cX9_splitDigits 62 = .ok (.putfield 57, 3) := dcw_181 (by decide +kernel)
theorem dX9_splitDigits_65 : decode cX9_splitDigits 65 = .ok (.aload_n 0, 1) := dc1_42 (by decide +kernel)
theorem dX9_splitDigits_66 : decode cX9_splitDigits 66 = .ok (.dup, 1) := dc1_89 (by decide +kernel)
theorem dX9_splitDigits_67 : decode cX9_splitDigits 67 = .ok (.getfield 47, 3) := dcw_180 (by decide +kernel)
theorem dX9_splitDigits_70 : decode cX9_splitDigits 70 = .ok (.iconst 1, 1) := dc1_4 (by decide +kernel)
theorem dX9_splitDigits_71 : decode cX9_splitDigits 71 = .ok (.iadd, 1) := dc1_96 (by decide +kernel)
theorem dX9_splitDigits_72 : decode cX9_splitDigits 72 = .ok (.putfield 47, 3) := dcw_181 (by decide +kernel)
theorem dX9_splitDigits_75 : decode cX9_splitDigits 75 = .ok (.goto (-70), 3) := dcs_167 (n := 65466) (by decide +kernel)
theorem dX9_splitDigits_78 : decode cX9_splitDigits 78 = .ok (.aload_n 0, 1) := dc1_42 (by decide +kernel)
theorem dX9_splitDigits_79 : decode cX9_splitDigits 79 = .ok (.getfield 47, 3) := dcw_180 (by decide +kernel)
theorem dX9_splitDigits_82 : decode cX9_splitDigits 82 = .ok (.iload_n 1, 1) := dc1_27 (by decide +kernel)
theorem dX9_splitDigits_83 : decode cX9_splitDigits 83 = .ok (.isub, 1) := dc1_100 (by decide +kernel)
theorem dX9_splitDigits_84 : decode cX9_splitDigits 84 = .ok (.iconst 4, 1) := dc1_7 (by decide +kernel)
theorem dX9_splitDigits_85 : decode cX9_splitDigits 85 = .ok (.if_icmp .le 9, 3) := dcs_164 (n := 9) (by decide +kernel)
theorem dX9_splitDigits_88 : decode cX9_splitDigits 88 = .ok (.sipush 303, 3) := dcs_17 (n := 303) (by decide +kernel)
theorem dX9_splitDigits_91 : decode cX9_splitDigits 91 = .ok (.goto 6, 3) := dcs_167 (n := 6) (by decide +kernel)
theorem dX9_splitDigits_94 : decode cX9_splitDigits 94 = .ok (.sipush 301, 3) := dcs_17 (n := 301) (by decide +kernel)
theorem dX9_splitDigits_97 : decode cX9_splitDigits 97 = .ok (.ireturn, 1) := dc1_172 (by decide +kernel)
theorem ggX10_feed_X7_hasRoomFor : GoodIn wsX10_feed wsX7_hasRoomFor := gi_sub (fun w h => List.mem_cons_of_mem _ (List.mem_append_left _ (List.mem_append_left _ (List.mem_append_right _ (List.mem_append_left _ h))))) gd_wsX7_hasRoomFor
set_option maxRecDepth 20000 in
theorem gX10_feed_X7_hasRoomFor_n77 : GoodIn wsX10_feed (wsX7_hasRoomFor) := ggX10_feed_X7_hasRoomFor
theorem ggX10_feed_X7_addFour : GoodIn wsX10_feed wsX7_addFour := gi_sub (fun w h => List.mem_cons_of_mem _ (List.mem_append_left _ (List.mem_append_left _ (List.mem_append_right _ (List.mem_append_right _ h))))) gd_wsX7_addFour
set_option maxRecDepth 20000 in
theorem gX10_feed_X7_addFour_n81 : GoodIn wsX10_feed (wsX7_addFour) := ggX10_feed_X7_addFour
theorem dX10_feed_0 : decode cX10_feed 0 = .ok (.aload_n 0, 1) := dc1_42 (by decide +kernel)
theorem dX10_feed_1 : decode cX10_feed 1 = .ok (.getfield 10, 3) := dcw_180 (by decide +kernel)
theorem dX10_feed_4 : decode cX10_feed 4 = .ok (.bipush 20, 2) := dcb_16 (n := 20) (by decide +kernel)
theorem dX10_feed_6 : decode cX10_feed 6 = .ok (.invokevirtual 77, 3) := dcw_182 (by decide +kernel)
theorem dX10_feed_9 : decode cX10_feed 9 = .ok (.ifCond .ne 5, 3) := dcs_154 (n := 5) (by decide +kernel)
theorem dX10_feed_12 : decode cX10_feed 12 = .ok (.iconst (-1), 1) := dc1_2 (by decide +kernel)
theorem dX10_feed_13 : decode cX10_feed 13 = .ok (.ireturn, 1) := dc1_172 (by decide +kernel)
theorem dX10_feed_14 : decode cX10_feed 14 = .ok (.aload_n 0, 1) := dc1_42 (by decide +kernel)
theorem dX10_feed_15 : decode cX10_feed 15 = .ok (.getfield 10, 3) := dcw_180 (by decide +kernel)
theorem dX10_feed_18 : decode cX10_feed 18 = .ok (.iload_n 1, 1) := dc1_27 (by decide +kernel)
theorem dX10_feed_19 : decode cX10_feed 19 = .ok (.invokevirtual 81, 3) := dcw_182 (by decide +kernel)
theorem dX10_feed_22 : decode cX10_feed 22 = .ok (.aload_n 0, 1) := dc1_42 (by decide +kernel)
theorem dX10_feed_23 : decode cX10_feed 23 = .ok (.getfield 10, 3) := dcw_180 (by decide +kernel)
theorem dX10_feed_26 : decode cX10_feed 26 = .ok (.iload_n 2, 1) := dc1_28 (by decide +kernel)
theorem dX10_feed_27 : decode cX10_feed 27 = .ok (.invokevirtual 81, 3) := dcw_182 (by decide +kernel)
theorem dX10_feed_30 : decode cX10_feed 30 = .ok (.aload_n 0, 1) := dc1_42 (by decide +kernel)
theorem dX10_feed_31 : decode cX10_feed 31 = .ok (.getfield 10, 3) := dcw_180 (by decide +kernel)
theorem dX10_feed_34 : decode cX10_feed 34 = .ok (.iload_n 3, 1) := dc1_29 (by decide +kernel)
theorem dX10_feed_35 : decode cX10_feed 35 = .ok (.invokevirtual 81, 3) := dcw_182 (by decide +kernel)
theorem dX10_feed_38 : decode cX10_feed 38 = .ok (.aload_n 0, 1) := dc1_42 (by decide +kernel)
theorem dX10_feed_39 : decode cX10_feed 39 = .ok (.getfield 10, 3) := dcw_180 (by decide +kernel)
theorem dX10_feed_42 : decode cX10_feed 42 = .ok (.iload 4, 2) := dcu_21 (by decide +kernel)
theorem dX10_feed_44 : decode cX10_feed 44 = .ok (.invokevirtual 81, 3) := dcw_182 (by decide +kernel)
theorem dX10_feed_47 : decode cX10_feed 47 = .ok (.aload_n 0, 1) := dc1_42 (by decide +kernel)
theorem dX10_feed_48 : decode cX10_feed 48 = .ok (.getfield 10, 3) := dcw_180 (by decide +kernel)
theorem dX10_feed_51 : decode cX10_feed 51 = .ok (.iload 5, 2) := dcu_21 (by decide +kernel)
theorem dX10_feed_53 : decode cX10_feed 53 = .ok (.invokevirtual 81, 3) := dcw_182 (by decide +kernel)
theorem dX10_feed_56 : decode cX10_feed 56 = .ok (.aload_n 0, 1) := dc1_42 (by decide +kernel)
theorem dX10_feed_57 : decode cX10_feed 57 = .ok (.getfield 10, 3) := dcw_180 (by decide +kernel)
theorem dX10_feed_60 : decode cX10_feed 60 = .ok (.getfield 85, 3) := dcw_180 (by decide +kernel)
theorem dX10_feed_63 : decode cX10_feed 63 = .ok (.ireturn, 1) := dc1_172 (by decide +kernel)
theorem dX10_back_0 : decode cX10_back 0 = .ok (.iload_n 1, 1) := dc1_27 (by decide +kernel)
theorem dX10_back_1 : decode cX10_back 1 = .ok (.ifCond .lt 14, 3) := dcs_155 (n := 14) (by decide +kernel)
theorem dX10_back_4 : decode cX10_back 4 = .ok (.iload_n 1, 1) := dc1_27 (by decide +kernel)
theorem dX10_back_5 : decode cX10_back 5 = .ok (.aload_n 0, 1) := dc1_42 (by decide +kernel)
theorem dX10_back_6 : decode cX10_back 6 = .ok (.getfield 10, 3) := dcw_180 (by decide +kernel)
theorem dX10_back_9 : decode cX10_back 9 = .ok (.getfield 85, 3) := dcw_180 (by decide +kernel)
theorem dX10_back_12 : decode cX10_back 12 = .ok (.if_icmp .le 5, 3) := dcs_164 (n := 5) (by decide +kernel)
theorem dX10_back_15 : decode cX10_back 15 = .ok (.iconst (-1), 1) := dc1_2 (by decide +kernel)
theorem dX10_back_16 : decode cX10_back 16 = .ok (.ireturn, 1) := dc1_172 (by decide +kernel)
theorem dX10_back_17 : decode cX10_back 17 = .ok (.aload_n 0, 1) := dc1_42 (by decide +kernel)
theorem dX10_back_18 : decode cX10_back 18 = .ok (.getfield 10, 3) := dcw_180 (by decide +kernel)
theorem dX10_back_21 : decode cX10_back 21 = .ok (.dup, 1) := dc1_89 (by decide +kernel)
theorem dX10_back_22 : decode cX10_back 22 = .ok (.getfield 85, 3) := dcw_180 (by decide +kernel)
theorem dX10_back_25 : decode cX10_back 25 = .ok (.iload_n 1, 1) := dc1_27 (by decide +kernel)
theorem dX10_back_26 : decode cX10_back 26 = .ok (.isub, 1) := dc1_100 (by decide +kernel)
theorem dX10_back_27 : decode cX10_back 27 = .ok (.putfield 85, 3) := dcw_181 (by decide +kernel)
theorem dX10_back_30 : decode cX10_back 30 = .ok (.aload_n 0, 1) := dc1_42 (by decide +kernel)
theorem dX10_back_31 : decode cX10_back 31 = .ok (.getfield 10, 3) := dcw_180 (by decide +kernel)
theorem dX10_back_34 : decode cX10_back 34 = .ok (.getfield 85, 3) := dcw_180 (by decide +kernel)
theorem dX10_back_37 : decode cX10_back 37 = .ok (.ireturn, 1) := dc1_172 (by decide +kernel)
theorem dX10_place_0 : decode cX10_place 0 = .ok (.aload_n 0, 1) := dc1_42 (by decide +kernel)
theorem dX10_place_1 : decode cX10_place 1 = .ok (.getfield 28, 3) := dcw_180 (by decide +kernel)
theorem dX10_place_4 : decode cX10_place 4 = .ok (.getfield 105, 3) := dcw_180 (by decide +kernel)
theorem dX10_place_7 : decode cX10_place 7 = .ok (.ireturn, 1) := dc1_172 (by decide +kernel)
set_option maxHeartbeats 4000000 in
set_option maxRecDepth 100000 in
theorem bkX9_isLetter {l : Launch} {dC : Nat → ClassId} {dI : Nat → Nat → Nat} {cB cI cJ cZ cS : ClassId} {as : List Value} {r : Int32} (x0 : Int32) (hB : kX9_isLetter x0 = some r) : BlkI l yX9_isLetter wsX9_isLetter ({ frames := 0, cells := 0, slots := 0, locals := 0 }) cX9_isLetter 1 (some .boolean) (dC, dI) (tysA cB cI cJ cZ cS) as 0 [] [(0, .int x0)] [] (fun x _ => x = r) := by
  intro p e s0 m below meth c A E H locs ls hP hD hS hl
  obtain ⟨C, hr, hlocks, hA, hK, hN⟩ := id E
  obtain ⟨hx, hb, hml, hown, hts⟩ := id C
  unfold kX9_isLetter at hB
  refine lv_iload_n hx hb dX9_isLetter_0 rfl (lv_at hl 0 rfl) ?_
  refine lv_bipush (v := 97) hx hb dX9_isLetter_1 (by decide) ?_
  refine lv_icmp_lt (tgt := 16) hx hb dX9_isLetter_3 (by decide) (fun c1 => ?_) (fun c1 => ?_)
  · have hB := if_p hB c1
    refine lv_iconst (v := 0) hx hb dX9_isLetter_16 (by decide) ?_
    exact q_zret C hr hlocks (Or.inl rfl) hK hP hD hS (Nat.le_of_ble_eq_true rfl) (Nat.le_of_ble_eq_true rfl) dX9_isLetter_17 (by cases hB; rfl)
  · have hB := if_n hB c1
    refine lv_iload_n hx hb dX9_isLetter_6 rfl (lv_at hl 0 rfl) ?_
    refine lv_bipush (v := 122) hx hb dX9_isLetter_7 (by decide) ?_
    refine lv_icmp_gt (tgt := 16) hx hb dX9_isLetter_9 (by decide) (fun c2 => ?_) (fun c2 => ?_)
    · have hB := if_p hB c2
      refine lv_iconst (v := 0) hx hb dX9_isLetter_16 (by decide) ?_
      exact q_zret C hr hlocks (Or.inl rfl) hK hP hD hS (Nat.le_of_ble_eq_true rfl) (Nat.le_of_ble_eq_true rfl) dX9_isLetter_17 (by cases hB; rfl)
    · have hB := if_n hB c2
      refine lv_iconst (v := 1) hx hb dX9_isLetter_12 (by decide) ?_
      refine lv_goto (tgt := 17) hx hb dX9_isLetter_13 (by decide) ?_
      exact q_zret C hr hlocks (Or.inr rfl) hK hP hD hS (Nat.le_of_ble_eq_true rfl) (Nat.le_of_ble_eq_true rfl) dX9_isLetter_17 (by cases hB; rfl)
theorem ckX9_isLetter {l : Launch} {dC : Nat → ClassId} {dI : Nat → Nat → Nat} {cB cI cJ cZ cS : ClassId} {r : Int32} {x0 : Int32} (hB : kX9_isLetter x0 = some r) : CI l yX9_isLetter wsX9_isLetter ({ frames := 0, cells := 0, slots := 0, locals := 0 }) (dC, dI) (tysA cB cI cJ cZ cS) [] [.int x0] (fun x _ => x = r) :=
  CI_of (cc := cX9_isLetter) (maxL := 1) (ret := (some .boolean)) (by decide) rfl (Nat.le_of_ble_eq_true rfl) (bkX9_isLetter _ hB)
set_option maxHeartbeats 4000000 in
set_option maxRecDepth 100000 in
theorem bkX9_isDigit {l : Launch} {dC : Nat → ClassId} {dI : Nat → Nat → Nat} {cB cI cJ cZ cS : ClassId} {as : List Value} {r : Int32} (x0 : Int32) (hB : kX9_isDigit x0 = some r) : BlkI l yX9_isDigit wsX9_isDigit ({ frames := 0, cells := 0, slots := 0, locals := 0 }) cX9_isDigit 1 (some .boolean) (dC, dI) (tysA cB cI cJ cZ cS) as 0 [] [(0, .int x0)] [] (fun x _ => x = r) := by
  intro p e s0 m below meth c A E H locs ls hP hD hS hl
  obtain ⟨C, hr, hlocks, hA, hK, hN⟩ := id E
  obtain ⟨hx, hb, hml, hown, hts⟩ := id C
  unfold kX9_isDigit at hB
  refine lv_iload_n hx hb dX9_isDigit_0 rfl (lv_at hl 0 rfl) ?_
  refine lv_bipush (v := 48) hx hb dX9_isDigit_1 (by decide) ?_
  refine lv_icmp_lt (tgt := 16) hx hb dX9_isDigit_3 (by decide) (fun c1 => ?_) (fun c1 => ?_)
  · have hB := if_p hB c1
    refine lv_iconst (v := 0) hx hb dX9_isDigit_16 (by decide) ?_
    exact q_zret C hr hlocks (Or.inl rfl) hK hP hD hS (Nat.le_of_ble_eq_true rfl) (Nat.le_of_ble_eq_true rfl) dX9_isDigit_17 (by cases hB; rfl)
  · have hB := if_n hB c1
    refine lv_iload_n hx hb dX9_isDigit_6 rfl (lv_at hl 0 rfl) ?_
    refine lv_bipush (v := 57) hx hb dX9_isDigit_7 (by decide) ?_
    refine lv_icmp_gt (tgt := 16) hx hb dX9_isDigit_9 (by decide) (fun c2 => ?_) (fun c2 => ?_)
    · have hB := if_p hB c2
      refine lv_iconst (v := 0) hx hb dX9_isDigit_16 (by decide) ?_
      exact q_zret C hr hlocks (Or.inl rfl) hK hP hD hS (Nat.le_of_ble_eq_true rfl) (Nat.le_of_ble_eq_true rfl) dX9_isDigit_17 (by cases hB; rfl)
    · have hB := if_n hB c2
      refine lv_iconst (v := 1) hx hb dX9_isDigit_12 (by decide) ?_
      refine lv_goto (tgt := 17) hx hb dX9_isDigit_13 (by decide) ?_
      exact q_zret C hr hlocks (Or.inr rfl) hK hP hD hS (Nat.le_of_ble_eq_true rfl) (Nat.le_of_ble_eq_true rfl) dX9_isDigit_17 (by cases hB; rfl)
theorem ckX9_isDigit {l : Launch} {dC : Nat → ClassId} {dI : Nat → Nat → Nat} {cB cI cJ cZ cS : ClassId} {r : Int32} {x0 : Int32} (hB : kX9_isDigit x0 = some r) : CI l yX9_isDigit wsX9_isDigit ({ frames := 0, cells := 0, slots := 0, locals := 0 }) (dC, dI) (tysA cB cI cJ cZ cS) [] [.int x0] (fun x _ => x = r) :=
  CI_of (cc := cX9_isDigit) (maxL := 1) (ret := (some .boolean)) (by decide) rfl (Nat.le_of_ble_eq_true rfl) (bkX9_isDigit _ hB)
set_option maxHeartbeats 4000000 in
set_option maxRecDepth 100000 in
theorem bkX9_withLetter {l : Launch} {dC : Nat → ClassId} {dI : Nat → Nat → Nat} {cB cI cJ cZ cS : ClassId} {as : List Value} {r : Int64} (x0 : Int64) (x2 : Int32) (hB : kX9_withLetter x0 x2 = some r) : BlkL l yX9_withLetter wsX9_withLetter ({ frames := 0, cells := 0, slots := 0, locals := 0 }) cX9_withLetter 3 (some .long) (dC, dI) (tysA cB cI cJ cZ cS) as 0 [] [(0, .long x0), (2, .int x2)] [] (fun x _ => x = r) := by
  intro p e s0 m below meth c A E H locs ls hP hD hS hl
  obtain ⟨C, hr, hlocks, hA, hK, hN⟩ := id E
  obtain ⟨hx, hb, hml, hown, hts⟩ := id C
  unfold kX9_withLetter at hB
  refine lv_lload_n hx hb dX9_withLetter_0 rfl (lv_at hl 0 rfl) ?_
  refine lv_iconst (v := 5) hx hb dX9_withLetter_1 (by decide) ?_
  refine lv_lshl (v := (lshlf x0 5)) hx hb dX9_withLetter_2 rfl ?_
  refine lv_iload_n hx hb dX9_withLetter_3 rfl (lv_at hl 1 rfl) ?_
  refine lv_bipush (v := 97) hx hb dX9_withLetter_4 (by decide) ?_
  refine lv_isub hx hb dX9_withLetter_6 ?_
  refine lv_iconst (v := 1) hx hb dX9_withLetter_7 (by decide) ?_
  refine lv_iadd hx hb dX9_withLetter_8 ?_
  refine lv_i2l hx hb dX9_withLetter_9 rfl ?_
  refine lv_lor hx hb dX9_withLetter_10 ?_
  exact q_lret C hr hlocks hK hP hD hS (Nat.le_of_ble_eq_true rfl) (Nat.le_of_ble_eq_true rfl) dX9_withLetter_11 (by cases hB; rfl)
theorem ckX9_withLetter {l : Launch} {dC : Nat → ClassId} {dI : Nat → Nat → Nat} {cB cI cJ cZ cS : ClassId} {r : Int64} {x0 : Int64} {x2 : Int32} (hB : kX9_withLetter x0 x2 = some r) : CL l yX9_withLetter wsX9_withLetter ({ frames := 0, cells := 0, slots := 0, locals := 0 }) (dC, dI) (tysA cB cI cJ cZ cS) [] [.long x0, .int x2] (fun x _ => x = r) :=
  CL_of (cc := cX9_withLetter) (maxL := 3) (ret := (some .long)) (by decide) rfl (Nat.le_of_ble_eq_true rfl) (bkX9_withLetter _ _ hB)
theorem LX9_skipBlanks_23 : Cond.fieldLink RX9 23 "GuessFerry$Tokens" "tape" "LGuessFerry$Tape;" ∈ wsX9_skipBlanks := by decide +kernel
theorem LX9_skipBlanks_47 : Cond.fieldLink RX9 47 "GuessFerry$Tokens" "end" "I" ∈ wsX9_skipBlanks := by decide +kernel
theorem LX9_skipBlanks_E_X7_byteAt : Cond.selects RX7 yX7_byteAt yX7_byteAt ∈ wsX9_skipBlanks := by decide +kernel
theorem LX9_skipBlanks_I_X7 : Cond.initialized RX7 ∈ wsX9_skipBlanks := by decide +kernel
theorem LX9_skipBlanks_N_X7_byteAt : Cond.instanceMethod yX7_byteAt ∈ wsX9_skipBlanks := by decide +kernel
theorem inX9_skipBlanks_X7 : ∀ w ∈ u_ws RX7 TX7 2, w ∈ wsX9_skipBlanks := by decide +kernel
theorem inX9_skipBlanks_X9 : ∀ w ∈ u_ws RX9 TX9 7, w ∈ wsX9_skipBlanks := by decide +kernel
set_option maxHeartbeats 4000000 in
set_option maxRecDepth 100000 in
theorem bkX9_skipBlanks_0 {l : Launch} {dC : Nat → ClassId} {dI : Nat → Nat → Nat} {cB cI cJ cZ cS : ClassId} {a : Nat → Nat} {as : List Value} {s' : KS} {k0 : KS → Option KS} (hk0 : ∀ (s : KS), k0 s = some s' → BlkV l yX9_skipBlanks wsX9_skipBlanks ({ frames := 1, cells := 0, slots := 0, locals := 21 }) cX9_skipBlanks 1 none (dC, dI) (tysA cB cI cJ cZ cS) as 0 (wK cB cI cJ cZ cS a s) [(0, .ref (a 30))] [] (fun u => u = (wK cB cI cJ cZ cS a s'))) (s : KS) (hB : kX9_skipBlanks_0 k0 s = some s') : BlkV l yX9_skipBlanks wsX9_skipBlanks ({ frames := 1, cells := 0, slots := 0, locals := 21 }) cX9_skipBlanks 1 none (dC, dI) (tysA cB cI cJ cZ cS) as 0 (wK cB cI cJ cZ cS a s) [(0, .ref (a 30))] [] (fun u => u = (wK cB cI cJ cZ cS a s')) := by
  intro p e s0 m below meth c A E H locs ls hP hD hS hl
  obtain ⟨C, hr, hlocks, hA, hK, hN⟩ := id E
  obtain ⟨hx, hb, hml, hown, hts⟩ := id C
  unfold kX9_skipBlanks_0 at hB
  refine lv_aload_n hx hb dX9_skipBlanks_0 rfl (lv_at hl 0 rfl) ?_
  refine q_get (v := .int (s.v 20)) C inX9_skipBlanks_X9 hK hP 30 rfl rfl 5 (by decide) rfl LX9_skipBlanks_47 rfl dX9_skipBlanks_1 ?_
  refine lv_aload_n hx hb dX9_skipBlanks_4 rfl (lv_at hl 0 rfl) ?_
  refine q_get (v := .ref (a 0)) C inX9_skipBlanks_X9 hK hP 30 rfl rfl 0 (by decide) rfl LX9_skipBlanks_23 rfl dX9_skipBlanks_5 ?_
  refine q_getN (v := .int (s.v 0)) C hN inX9_skipBlanks_X7 hK hP 0 rfl rfl 1 (by decide) rfl nwF_X9_61 rfl dX9_skipBlanks_8 ?_
  refine lv_icmp_ge (tgt := 44) hx hb dX9_skipBlanks_11 (by decide) (fun c1 => ?_) (fun c1 => ?_)
  · have hB := if_p hB c1
    exact q_vret C hr hlocks hK hP hD hS (Nat.le_of_ble_eq_true rfl) (Nat.le_of_ble_eq_true rfl) dX9_skipBlanks_44 (by cases hB; rfl)
  · have hB := if_n hB c1
    refine lv_aload_n hx hb dX9_skipBlanks_14 rfl (lv_at hl 0 rfl) ?_
    refine q_get (v := .ref (a 0)) C inX9_skipBlanks_X9 hK hP 30 rfl rfl 0 (by decide) rfl LX9_skipBlanks_23 rfl dX9_skipBlanks_15 ?_
    refine lv_aload_n hx hb dX9_skipBlanks_18 rfl (lv_at hl 0 rfl) ?_
    refine q_get (v := .int (s.v 20)) C inX9_skipBlanks_X9 hK hP 30 rfl rfl 5 (by decide) rfl LX9_skipBlanks_47 rfl dX9_skipBlanks_19 ?_
    obtain ⟨q_, s2, hc, hB⟩ := bindI_inv hB
    refine q_goiF (va_runVN (As := [.int (s.v 20)]) (rest := []) C (ckX7_byteAt hc _) ⟨va_cnB 1 hts gX9_skipBlanks_X7_byteAt_n65 rfl rfl rfl (hN _ nwM_X9_65 rfl) (hts _ LX9_skipBlanks_I_X7) (by decide +kernel) ⟨Nat.le_of_ble_eq_true rfl, Nat.le_of_ble_eq_true rfl⟩, hts _ LX9_skipBlanks_N_X7_byteAt, hts _ LX9_skipBlanks_E_X7_byteAt⟩ (q_preV hK hP (ci := 7) (q0 := 0) rfl rfl rfl (q_preF hN hK hP hD)) rfl rfl hl.1 rfl (lv_room (Nat.le_of_ble_eq_true rfl)) dX9_skipBlanks_22 ⟨Nat.le_of_ble_eq_true rfl, Nat.le_of_ble_eq_true rfl⟩) hD hS hA (fun r3 w1 H locs hw hP hD hS => ?_)
    obtain ⟨hq_, hw⟩ := hw; subst hw; subst hq_
    obtain ⟨q_, hc, hB⟩ := bindP_inv hB
    refine q_goi0 (va_runS (As := [.int r3]) (rest := []) C (ckX9_isBlank hc _) (va_cwS 1 hts gX9_skipBlanks_X9_isBlank rfl rfl rfl (by decide +kernel) ⟨Nat.le_of_ble_eq_true rfl, Nat.le_of_ble_eq_true rfl⟩) (q_pre0 hN hK) rfl rfl hl.1 rfl (lv_room (Nat.le_of_ble_eq_true rfl)) dX9_skipBlanks_25 ⟨Nat.le_of_ble_eq_true rfl, Nat.le_of_ble_eq_true rfl⟩) hP hD hS hA (fun r4 w1 H locs hw hP hS => ?_)
    subst hw
    refine lv_if_eq (tgt := 44) hx hb dX9_skipBlanks_28 (by decide) (fun c5 => ?_) (fun c5 => ?_)
    · have hB := if_p hB c5
      exact q_vret C hr hlocks hK hP hD hS (Nat.le_of_ble_eq_true rfl) (Nat.le_of_ble_eq_true rfl) dX9_skipBlanks_44 (by cases hB; rfl)
    · have hB := if_n hB c5
      refine lv_aload_n hx hb dX9_skipBlanks_31 rfl (lv_at hl 0 rfl) ?_
      refine lv_dup hx hb dX9_skipBlanks_32 rfl ?_
      refine q_get (v := .int (s2.v 20)) C inX9_skipBlanks_X9 hK hP 30 rfl rfl 5 (by decide) rfl LX9_skipBlanks_47 rfl dX9_skipBlanks_33 ?_
      refine lv_iconst (v := 1) hx hb dX9_skipBlanks_36 (by decide) ?_
      refine lv_iadd hx hb dX9_skipBlanks_37 ?_
      obtain ⟨s6, hs7, hB⟩ := letS_inv hB
      refine q_put (ty := .int) (w2 := (wK cB cI cJ cZ cS a s6)) tyX9 tyX9_ok nmX9 C inX9_skipBlanks_X9 hK hP hD hS 30 rfl rfl 5 (by decide) rfl LX9_skipBlanks_47 rfl (by decide +kernel) (rfl) rfl (Nat.le_of_ble_eq_true rfl) dX9_skipBlanks_38 (by subst hs7; rfl) (fun H locs hP hD hS => ?_)
      refine lv_goto (tgt := 0) hx hb dX9_skipBlanks_41 (by decide) ?_
      exact hk0 _ hB p e s0 m below meth c A E H locs ls hP hD hS (lv_sub hl [0] rfl)
theorem bkX9_skipBlanks_0L {l : Launch} {dC : Nat → ClassId} {dI : Nat → Nat → Nat} {cB cI cJ cZ cS : ClassId} {a : Nat → Nat} {as : List Value} {s' : KS} : ∀ (n : Nat) (s : KS), kX9_skipBlanks_0L n s = some s' → BlkV l yX9_skipBlanks wsX9_skipBlanks ({ frames := 1, cells := 0, slots := 0, locals := 21 }) cX9_skipBlanks 1 none (dC, dI) (tysA cB cI cJ cZ cS) as 0 (wK cB cI cJ cZ cS a s) [(0, .ref (a 30))] [] (fun u => u = (wK cB cI cJ cZ cS a s')) := by
  intro n
  induction n with
  | zero => intro s hB; exact none_ne hB
  | succ n ih => intro s hB; exact bkX9_skipBlanks_0 ih _ hB
theorem ckX9_skipBlanks {l : Launch} {dC : Nat → ClassId} {dI : Nat → Nat → Nat} {cB cI cJ cZ cS : ClassId} {a : Nat → Nat} {s' : KS} {s : KS} (hB : kX9_skipBlanks s = some s') : CV l yX9_skipBlanks wsX9_skipBlanks ({ frames := 1, cells := 0, slots := 0, locals := 21 }) (dC, dI) (tysA cB cI cJ cZ cS) (wK cB cI cJ cZ cS a s) [.ref (a 30)] (fun u => u = (wK cB cI cJ cZ cS a s')) :=
  CV_of (cc := cX9_skipBlanks) (maxL := 1) (ret := none) (by decide) rfl (Nat.le_of_ble_eq_true rfl) (bkX9_skipBlanks_0L fu _ hB)
theorem LX9_splitLetters_23 : Cond.fieldLink RX9 23 "GuessFerry$Tokens" "tape" "LGuessFerry$Tape;" ∈ wsX9_splitLetters := by decide +kernel
theorem LX9_splitLetters_47 : Cond.fieldLink RX9 47 "GuessFerry$Tokens" "end" "I" ∈ wsX9_splitLetters := by decide +kernel
theorem LX9_splitLetters_57 : Cond.fieldLink RX9 57 "GuessFerry$Tokens" "value" "J" ∈ wsX9_splitLetters := by decide +kernel
theorem LX9_splitLetters_9 : Cond.fieldLink RX9 9 "GuessFerry$Tokens" "words" "[J" ∈ wsX9_splitLetters := by decide +kernel
theorem LX9_splitLetters_E_X7_byteAt : Cond.selects RX7 yX7_byteAt yX7_byteAt ∈ wsX9_splitLetters := by decide +kernel
theorem LX9_splitLetters_I_X7 : Cond.initialized RX7 ∈ wsX9_splitLetters := by decide +kernel
theorem LX9_splitLetters_N_X7_byteAt : Cond.instanceMethod yX7_byteAt ∈ wsX9_splitLetters := by decide +kernel
theorem inX9_splitLetters_X7 : ∀ w ∈ u_ws RX7 TX7 2, w ∈ wsX9_splitLetters := by decide +kernel
theorem inX9_splitLetters_X9 : ∀ w ∈ u_ws RX9 TX9 7, w ∈ wsX9_splitLetters := by decide +kernel
set_option maxHeartbeats 4000000 in
set_option maxRecDepth 100000 in
theorem bkX9_splitLetters_88 {l : Launch} {dC : Nat → ClassId} {dI : Nat → Nat → Nat} {cB cI cJ cZ cS : ClassId} {a : Nat → Nat} {as : List Value} {r : Int32} {s' : KS} {k88 : KS → Int32 → Option (Int32 × KS)} (hk88 : ∀ (s : KS) (x2 : Int32), k88 s x2 = some (r, s') → BlkI l yX9_splitLetters wsX9_splitLetters ({ frames := 1, cells := 0, slots := 0, locals := 22 }) cX9_splitLetters 3 (some .int) (dC, dI) (tysA cB cI cJ cZ cS) as 88 (wK cB cI cJ cZ cS a s) [(0, .ref (a 30)), (2, .int x2)] [] (fun x u => x = r ∧ u = (wK cB cI cJ cZ cS a s'))) (s : KS) (x2 : Int32) (hB : kX9_splitLetters_88 k88 s x2 = some (r, s')) : BlkI l yX9_splitLetters wsX9_splitLetters ({ frames := 1, cells := 0, slots := 0, locals := 22 }) cX9_splitLetters 3 (some .int) (dC, dI) (tysA cB cI cJ cZ cS) as 88 (wK cB cI cJ cZ cS a s) [(0, .ref (a 30)), (2, .int x2)] [] (fun x u => x = r ∧ u = (wK cB cI cJ cZ cS a s')) := by
  intro p e s0 m below meth c A E H locs ls hP hD hS hl
  obtain ⟨C, hr, hlocks, hA, hK, hN⟩ := id E
  obtain ⟨hx, hb, hml, hown, hts⟩ := id C
  unfold kX9_splitLetters_88 at hB
  refine lv_iload_n hx hb dX9_splitLetters_88 rfl (lv_at hl 1 rfl) ?_
  refine lv_bipush (v := 19) hx hb dX9_splitLetters_89 (by decide) ?_
  refine lv_icmp_ge (tgt := 120) hx hb dX9_splitLetters_91 (by decide) (fun c1 => ?_) (fun c1 => ?_)
  · have hB := if_p hB c1
    refine lv_sipush (v := 300) hx hb dX9_splitLetters_120 (by decide) ?_
    exact q_iret C hr hlocks hK hP hD hS (Nat.le_of_ble_eq_true rfl) (Nat.le_of_ble_eq_true rfl) dX9_splitLetters_123 (by cases hB; exact ⟨rfl, rfl⟩)
  · have hB := if_n hB c1
    refine lv_aload_n hx hb dX9_splitLetters_94 rfl (lv_at hl 0 rfl) ?_
    refine q_get (v := .ref (a 31)) C inX9_splitLetters_X9 hK hP 30 rfl rfl 1 (by decide) rfl LX9_splitLetters_9 rfl dX9_splitLetters_95 ?_
    refine lv_iload_n hx hb dX9_splitLetters_98 rfl (lv_at hl 1 rfl) ?_
    obtain ⟨g2, hB⟩ := guard_inv hB
    refine q_lald (x := ((s.g 31) (Int32.toNatClampNeg x2))) C hK hP 31 2 rfl rfl (vpb_in g2) dX9_splitLetters_99 rfl ?_
    refine lv_aload_n hx hb dX9_splitLetters_100 rfl (lv_at hl 0 rfl) ?_
    refine q_get (v := .long (s.u 0)) C inX9_splitLetters_X9 hK hP 30 rfl rfl 6 (by decide) rfl LX9_splitLetters_57 rfl dX9_splitLetters_101 ?_
    refine W.lcmp hx hb dX9_splitLetters_104 ?_
    refine lv_if_ne (tgt := 114) hx hb dX9_splitLetters_105 (by decide) (fun c3 => ?_) (fun c3 => ?_)
    · have hB := if_n hB c3
      refine lv_iinc (v := (x2 + 1)) (lv' := [(2, .int (x2 + 1)), (0, .ref (a 30))]) hx hb dX9_splitLetters_114 hl (k := 1) rfl (rfl) (by decide) rfl (fun ls hl => ?_)
      refine lv_goto (tgt := 88) hx hb dX9_splitLetters_117 (by decide) ?_
      exact hk88 _ _ hB p e s0 m below meth c A E H locs ls hP hD hS (lv_sub hl [1, 0] rfl)
    · have hB := if_p hB c3
      refine lv_sipush (v := 256) hx hb dX9_splitLetters_108 (by decide) ?_
      refine lv_iload_n hx hb dX9_splitLetters_111 rfl (lv_at hl 1 rfl) ?_
      refine lv_iadd hx hb dX9_splitLetters_112 ?_
      exact q_iret C hr hlocks hK hP hD hS (Nat.le_of_ble_eq_true rfl) (Nat.le_of_ble_eq_true rfl) dX9_splitLetters_113 (by cases hB; exact ⟨rfl, rfl⟩)
theorem bkX9_splitLetters_88L {l : Launch} {dC : Nat → ClassId} {dI : Nat → Nat → Nat} {cB cI cJ cZ cS : ClassId} {a : Nat → Nat} {as : List Value} {r : Int32} {s' : KS} : ∀ (n : Nat) (s : KS) (x2 : Int32), kX9_splitLetters_88L n s x2 = some (r, s') → BlkI l yX9_splitLetters wsX9_splitLetters ({ frames := 1, cells := 0, slots := 0, locals := 22 }) cX9_splitLetters 3 (some .int) (dC, dI) (tysA cB cI cJ cZ cS) as 88 (wK cB cI cJ cZ cS a s) [(0, .ref (a 30)), (2, .int x2)] [] (fun x u => x = r ∧ u = (wK cB cI cJ cZ cS a s')) := by
  intro n
  induction n with
  | zero => intro s x2 hB; exact none_ne hB
  | succ n ih => intro s x2 hB; exact bkX9_splitLetters_88 ih _ _ hB
set_option maxHeartbeats 4000000 in
set_option maxRecDepth 100000 in
theorem bkX9_splitLetters_71 {l : Launch} {dC : Nat → ClassId} {dI : Nat → Nat → Nat} {cB cI cJ cZ cS : ClassId} {a : Nat → Nat} {as : List Value} {r : Int32} {s' : KS} (s : KS) (x1 : Int32) (hB : kX9_splitLetters_71 s x1 = some (r, s')) : BlkI l yX9_splitLetters wsX9_splitLetters ({ frames := 1, cells := 0, slots := 0, locals := 22 }) cX9_splitLetters 3 (some .int) (dC, dI) (tysA cB cI cJ cZ cS) as 71 (wK cB cI cJ cZ cS a s) [(0, .ref (a 30)), (1, .int x1)] [] (fun x u => x = r ∧ u = (wK cB cI cJ cZ cS a s')) := by
  intro p e s0 m below meth c A E H locs ls hP hD hS hl
  obtain ⟨C, hr, hlocks, hA, hK, hN⟩ := id E
  obtain ⟨hx, hb, hml, hown, hts⟩ := id C
  unfold kX9_splitLetters_71 at hB
  refine lv_aload_n hx hb dX9_splitLetters_71 rfl (lv_at hl 0 rfl) ?_
  refine q_get (v := .int (s.v 20)) C inX9_splitLetters_X9 hK hP 30 rfl rfl 5 (by decide) rfl LX9_splitLetters_47 rfl dX9_splitLetters_72 ?_
  refine lv_iload_n hx hb dX9_splitLetters_75 rfl (lv_at hl 1 rfl) ?_
  refine lv_isub hx hb dX9_splitLetters_76 ?_
  refine lv_bipush (v := 8) hx hb dX9_splitLetters_77 (by decide) ?_
  refine lv_icmp_le (tgt := 86) hx hb dX9_splitLetters_79 (by decide) (fun c1 => ?_) (fun c1 => ?_)
  · have hB := if_p hB c1
    refine lv_iconst (v := 0) hx hb dX9_splitLetters_86 (by decide) ?_
    refine lv_istore_n (lv' := [(2, .int 0), (0, .ref (a 30)), (1, .int x1)]) hx hb dX9_splitLetters_87 rfl hl (by decide) rfl (fun ls hl => ?_)
    exact bkX9_splitLetters_88L fu _ _ hB p e s0 m below meth c A E H locs ls hP hD hS (lv_sub hl [1, 0] rfl)
  · have hB := if_n hB c1
    refine lv_sipush (v := 303) hx hb dX9_splitLetters_82 (by decide) ?_
    exact q_iret C hr hlocks hK hP hD hS (Nat.le_of_ble_eq_true rfl) (Nat.le_of_ble_eq_true rfl) dX9_splitLetters_85 (by cases hB; exact ⟨rfl, rfl⟩)
set_option maxHeartbeats 4000000 in
set_option maxRecDepth 100000 in
theorem bkX9_splitLetters_5 {l : Launch} {dC : Nat → ClassId} {dI : Nat → Nat → Nat} {cB cI cJ cZ cS : ClassId} {a : Nat → Nat} {as : List Value} {r : Int32} {s' : KS} {k5 : KS → Int32 → Option (Int32 × KS)} (hk5 : ∀ (s : KS) (x1 : Int32), k5 s x1 = some (r, s') → BlkI l yX9_splitLetters wsX9_splitLetters ({ frames := 1, cells := 0, slots := 0, locals := 22 }) cX9_splitLetters 3 (some .int) (dC, dI) (tysA cB cI cJ cZ cS) as 5 (wK cB cI cJ cZ cS a s) [(0, .ref (a 30)), (1, .int x1)] [] (fun x u => x = r ∧ u = (wK cB cI cJ cZ cS a s'))) (s : KS) (x1 : Int32) (hB : kX9_splitLetters_5 k5 s x1 = some (r, s')) : BlkI l yX9_splitLetters wsX9_splitLetters ({ frames := 1, cells := 0, slots := 0, locals := 22 }) cX9_splitLetters 3 (some .int) (dC, dI) (tysA cB cI cJ cZ cS) as 5 (wK cB cI cJ cZ cS a s) [(0, .ref (a 30)), (1, .int x1)] [] (fun x u => x = r ∧ u = (wK cB cI cJ cZ cS a s')) := by
  intro p e s0 m below meth c A E H locs ls hP hD hS hl
  obtain ⟨C, hr, hlocks, hA, hK, hN⟩ := id E
  obtain ⟨hx, hb, hml, hown, hts⟩ := id C
  unfold kX9_splitLetters_5 at hB
  refine lv_aload_n hx hb dX9_splitLetters_5 rfl (lv_at hl 0 rfl) ?_
  refine q_get (v := .int (s.v 20)) C inX9_splitLetters_X9 hK hP 30 rfl rfl 5 (by decide) rfl LX9_splitLetters_47 rfl dX9_splitLetters_6 ?_
  refine lv_aload_n hx hb dX9_splitLetters_9 rfl (lv_at hl 0 rfl) ?_
  refine q_get (v := .ref (a 0)) C inX9_splitLetters_X9 hK hP 30 rfl rfl 0 (by decide) rfl LX9_splitLetters_23 rfl dX9_splitLetters_10 ?_
  refine q_getN (v := .int (s.v 0)) C hN inX9_splitLetters_X7 hK hP 0 rfl rfl 1 (by decide) rfl nwF_X9_61 rfl dX9_splitLetters_13 ?_
  refine lv_icmp_ge (tgt := 71) hx hb dX9_splitLetters_16 (by decide) (fun c1 => ?_) (fun c1 => ?_)
  · have hB := if_p hB c1
    exact bkX9_splitLetters_71 _ _ hB p e s0 m below meth c A E H locs ls hP hD hS (lv_sub hl [0, 1] rfl)
  · have hB := if_n hB c1
    refine lv_aload_n hx hb dX9_splitLetters_19 rfl (lv_at hl 0 rfl) ?_
    refine q_get (v := .ref (a 0)) C inX9_splitLetters_X9 hK hP 30 rfl rfl 0 (by decide) rfl LX9_splitLetters_23 rfl dX9_splitLetters_20 ?_
    refine lv_aload_n hx hb dX9_splitLetters_23 rfl (lv_at hl 0 rfl) ?_
    refine q_get (v := .int (s.v 20)) C inX9_splitLetters_X9 hK hP 30 rfl rfl 5 (by decide) rfl LX9_splitLetters_47 rfl dX9_splitLetters_24 ?_
    obtain ⟨q_, s2, hc, hB⟩ := bindI_inv hB
    refine q_goiF (va_runVN (As := [.int (s.v 20)]) (rest := []) C (ckX7_byteAt hc _) ⟨va_cnB 1 hts gX9_splitLetters_X7_byteAt_n65 rfl rfl rfl (hN _ nwM_X9_65 rfl) (hts _ LX9_splitLetters_I_X7) (by decide +kernel) ⟨Nat.le_of_ble_eq_true rfl, Nat.le_of_ble_eq_true rfl⟩, hts _ LX9_splitLetters_N_X7_byteAt, hts _ LX9_splitLetters_E_X7_byteAt⟩ (q_preV hK hP (ci := 7) (q0 := 0) rfl rfl rfl (q_preF hN hK hP hD)) rfl rfl hl.1 rfl (lv_room (Nat.le_of_ble_eq_true rfl)) dX9_splitLetters_27 ⟨Nat.le_of_ble_eq_true rfl, Nat.le_of_ble_eq_true rfl⟩) hD hS hA (fun r3 w1 H locs hw hP hD hS => ?_)
    obtain ⟨hq_, hw⟩ := hw; subst hw; subst hq_
    obtain ⟨q_, hc, hB⟩ := bindP_inv hB
    refine q_goi0 (va_runS (As := [.int r3]) (rest := []) C (ckX9_isLetter hc _) (va_cwS 1 hts gX9_splitLetters_X9_isLetter rfl rfl rfl (by decide +kernel) ⟨Nat.le_of_ble_eq_true rfl, Nat.le_of_ble_eq_true rfl⟩) (q_pre0 hN hK) rfl rfl hl.1 rfl (lv_room (Nat.le_of_ble_eq_true rfl)) dX9_splitLetters_30 ⟨Nat.le_of_ble_eq_true rfl, Nat.le_of_ble_eq_true rfl⟩) hP hD hS hA (fun r4 w1 H locs hw hP hS => ?_)
    subst hw
    refine lv_if_eq (tgt := 71) hx hb dX9_splitLetters_33 (by decide) (fun c5 => ?_) (fun c5 => ?_)
    · have hB := if_p hB c5
      exact bkX9_splitLetters_71 _ _ hB p e s0 m below meth c A E H locs ls hP hD hS (lv_sub hl [0, 1] rfl)
    · have hB := if_n hB c5
      refine lv_aload_n hx hb dX9_splitLetters_36 rfl (lv_at hl 0 rfl) ?_
      refine lv_aload_n hx hb dX9_splitLetters_37 rfl (lv_at hl 0 rfl) ?_
      refine q_get (v := .long (s2.u 0)) C inX9_splitLetters_X9 hK hP 30 rfl rfl 6 (by decide) rfl LX9_splitLetters_57 rfl dX9_splitLetters_38 ?_
      refine lv_aload_n hx hb dX9_splitLetters_41 rfl (lv_at hl 0 rfl) ?_
      refine q_get (v := .ref (a 0)) C inX9_splitLetters_X9 hK hP 30 rfl rfl 0 (by decide) rfl LX9_splitLetters_23 rfl dX9_splitLetters_42 ?_
      refine lv_aload_n hx hb dX9_splitLetters_45 rfl (lv_at hl 0 rfl) ?_
      refine q_get (v := .int (s2.v 20)) C inX9_splitLetters_X9 hK hP 30 rfl rfl 5 (by decide) rfl LX9_splitLetters_47 rfl dX9_splitLetters_46 ?_
      obtain ⟨q_, s6, hc, hB⟩ := bindI_inv hB
      refine q_goiF (va_runVN (As := [.int (s2.v 20)]) (rest := [.long (s2.u 0), .ref (a 30)]) C (ckX7_byteAt hc _) ⟨va_cnB 1 hts gX9_splitLetters_X7_byteAt_n65 rfl rfl rfl (hN _ nwM_X9_65 rfl) (hts _ LX9_splitLetters_I_X7) (by decide +kernel) ⟨Nat.le_of_ble_eq_true rfl, Nat.le_of_ble_eq_true rfl⟩, hts _ LX9_splitLetters_N_X7_byteAt, hts _ LX9_splitLetters_E_X7_byteAt⟩ (q_preV hK hP (ci := 7) (q0 := 0) rfl rfl rfl (q_preF hN hK hP hD)) rfl rfl hl.1 rfl (lv_room (Nat.le_of_ble_eq_true rfl)) dX9_splitLetters_49 ⟨Nat.le_of_ble_eq_true rfl, Nat.le_of_ble_eq_true rfl⟩) hD hS hA (fun r7 w1 H locs hw hP hD hS => ?_)
      obtain ⟨hq_, hw⟩ := hw; subst hw; subst hq_
      obtain ⟨q_, hc, hB⟩ := bindP_inv hB
      refine q_gol0 (va_runS (As := [.long (s2.u 0), .int r7]) (rest := [.ref (a 30)]) C (ckX9_withLetter hc _) (va_cwS 2 hts gX9_splitLetters_X9_withLetter rfl rfl rfl (by decide +kernel) ⟨Nat.le_of_ble_eq_true rfl, Nat.le_of_ble_eq_true rfl⟩) (q_pre0 hN hK) rfl rfl hl.1 rfl (lv_room (Nat.le_of_ble_eq_true rfl)) dX9_splitLetters_52 ⟨Nat.le_of_ble_eq_true rfl, Nat.le_of_ble_eq_true rfl⟩) hP hD hS hA (fun r8 w1 H locs hw hP hS => ?_)
      subst hw
      obtain ⟨s9, hs10, hB⟩ := letS_inv hB
      refine q_put (ty := .long) (w2 := (wK cB cI cJ cZ cS a s9)) tyX9 tyX9_ok nmX9 C inX9_splitLetters_X9 hK hP hD hS 30 rfl rfl 6 (by decide) rfl LX9_splitLetters_57 rfl (by decide +kernel) (rfl) rfl (Nat.le_of_ble_eq_true rfl) dX9_splitLetters_55 (by subst hs10; rfl) (fun H locs hP hD hS => ?_)
      refine lv_aload_n hx hb dX9_splitLetters_58 rfl (lv_at hl 0 rfl) ?_
      refine lv_dup hx hb dX9_splitLetters_59 rfl ?_
      refine q_get (v := .int (s9.v 20)) C inX9_splitLetters_X9 hK hP 30 rfl rfl 5 (by decide) rfl LX9_splitLetters_47 rfl dX9_splitLetters_60 ?_
      refine lv_iconst (v := 1) hx hb dX9_splitLetters_63 (by decide) ?_
      refine lv_iadd hx hb dX9_splitLetters_64 ?_
      obtain ⟨s11, hs12, hB⟩ := letS_inv hB
      refine q_put (ty := .int) (w2 := (wK cB cI cJ cZ cS a s11)) tyX9 tyX9_ok nmX9 C inX9_splitLetters_X9 hK hP hD hS 30 rfl rfl 5 (by decide) rfl LX9_splitLetters_47 rfl (by decide +kernel) (rfl) rfl (Nat.le_of_ble_eq_true rfl) dX9_splitLetters_65 (by subst hs12; rfl) (fun H locs hP hD hS => ?_)
      refine lv_goto (tgt := 5) hx hb dX9_splitLetters_68 (by decide) ?_
      exact hk5 _ _ hB p e s0 m below meth c A E H locs ls hP hD hS (lv_sub hl [0, 1] rfl)
theorem bkX9_splitLetters_5L {l : Launch} {dC : Nat → ClassId} {dI : Nat → Nat → Nat} {cB cI cJ cZ cS : ClassId} {a : Nat → Nat} {as : List Value} {r : Int32} {s' : KS} : ∀ (n : Nat) (s : KS) (x1 : Int32), kX9_splitLetters_5L n s x1 = some (r, s') → BlkI l yX9_splitLetters wsX9_splitLetters ({ frames := 1, cells := 0, slots := 0, locals := 22 }) cX9_splitLetters 3 (some .int) (dC, dI) (tysA cB cI cJ cZ cS) as 5 (wK cB cI cJ cZ cS a s) [(0, .ref (a 30)), (1, .int x1)] [] (fun x u => x = r ∧ u = (wK cB cI cJ cZ cS a s')) := by
  intro n
  induction n with
  | zero => intro s x1 hB; exact none_ne hB
  | succ n ih => intro s x1 hB; exact bkX9_splitLetters_5 ih _ _ hB
set_option maxHeartbeats 4000000 in
set_option maxRecDepth 100000 in
theorem bkX9_splitLetters {l : Launch} {dC : Nat → ClassId} {dI : Nat → Nat → Nat} {cB cI cJ cZ cS : ClassId} {a : Nat → Nat} {as : List Value} {r : Int32} {s' : KS} (s : KS) (hB : kX9_splitLetters s = some (r, s')) : BlkI l yX9_splitLetters wsX9_splitLetters ({ frames := 1, cells := 0, slots := 0, locals := 22 }) cX9_splitLetters 3 (some .int) (dC, dI) (tysA cB cI cJ cZ cS) as 0 (wK cB cI cJ cZ cS a s) [(0, .ref (a 30))] [] (fun x u => x = r ∧ u = (wK cB cI cJ cZ cS a s')) := by
  intro p e s0 m below meth c A E H locs ls hP hD hS hl
  obtain ⟨C, hr, hlocks, hA, hK, hN⟩ := id E
  obtain ⟨hx, hb, hml, hown, hts⟩ := id C
  unfold kX9_splitLetters at hB
  refine lv_aload_n hx hb dX9_splitLetters_0 rfl (lv_at hl 0 rfl) ?_
  refine q_get (v := .int (s.v 20)) C inX9_splitLetters_X9 hK hP 30 rfl rfl 5 (by decide) rfl LX9_splitLetters_47 rfl dX9_splitLetters_1 ?_
  refine lv_istore_n (lv' := [(1, .int (s.v 20)), (0, .ref (a 30))]) hx hb dX9_splitLetters_4 rfl hl (by decide) rfl (fun ls hl => ?_)
  exact bkX9_splitLetters_5L fu _ _ hB p e s0 m below meth c A E H locs ls hP hD hS (lv_sub hl [1, 0] rfl)
theorem ckX9_splitLetters {l : Launch} {dC : Nat → ClassId} {dI : Nat → Nat → Nat} {cB cI cJ cZ cS : ClassId} {a : Nat → Nat} {r : Int32} {s' : KS} {s : KS} (hB : kX9_splitLetters s = some (r, s')) : CI l yX9_splitLetters wsX9_splitLetters ({ frames := 1, cells := 0, slots := 0, locals := 22 }) (dC, dI) (tysA cB cI cJ cZ cS) (wK cB cI cJ cZ cS a s) [.ref (a 30)] (fun x u => x = r ∧ u = (wK cB cI cJ cZ cS a s')) :=
  CI_of (cc := cX9_splitLetters) (maxL := 3) (ret := (some .int)) (by decide) rfl (Nat.le_of_ble_eq_true rfl) (bkX9_splitLetters _ hB)
theorem LX9_splitDigits_23 : Cond.fieldLink RX9 23 "GuessFerry$Tokens" "tape" "LGuessFerry$Tape;" ∈ wsX9_splitDigits := by decide +kernel
theorem LX9_splitDigits_47 : Cond.fieldLink RX9 47 "GuessFerry$Tokens" "end" "I" ∈ wsX9_splitDigits := by decide +kernel
theorem LX9_splitDigits_57 : Cond.fieldLink RX9 57 "GuessFerry$Tokens" "value" "J" ∈ wsX9_splitDigits := by decide +kernel
theorem LX9_splitDigits_E_X7_byteAt : Cond.selects RX7 yX7_byteAt yX7_byteAt ∈ wsX9_splitDigits := by decide +kernel
theorem LX9_splitDigits_I_X7 : Cond.initialized RX7 ∈ wsX9_splitDigits := by decide +kernel
theorem LX9_splitDigits_K86 : Cond.constantLong RX9 86 10 ∈ wsX9_splitDigits := by decide +kernel
theorem LX9_splitDigits_K88 : Cond.constantLong RX9 88 48 ∈ wsX9_splitDigits := by decide +kernel
theorem LX9_splitDigits_N_X7_byteAt : Cond.instanceMethod yX7_byteAt ∈ wsX9_splitDigits := by decide +kernel
theorem inX9_splitDigits_X7 : ∀ w ∈ u_ws RX7 TX7 2, w ∈ wsX9_splitDigits := by decide +kernel
theorem inX9_splitDigits_X9 : ∀ w ∈ u_ws RX9 TX9 7, w ∈ wsX9_splitDigits := by decide +kernel
set_option maxHeartbeats 4000000 in
set_option maxRecDepth 100000 in
theorem bkX9_splitDigits_78 {l : Launch} {dC : Nat → ClassId} {dI : Nat → Nat → Nat} {cB cI cJ cZ cS : ClassId} {a : Nat → Nat} {as : List Value} {r : Int32} {s' : KS} (s : KS) (x1 : Int32) (hB : kX9_splitDigits_78 s x1 = some (r, s')) : BlkI l yX9_splitDigits wsX9_splitDigits ({ frames := 1, cells := 0, slots := 0, locals := 21 }) cX9_splitDigits 2 (some .int) (dC, dI) (tysA cB cI cJ cZ cS) as 78 (wK cB cI cJ cZ cS a s) [(0, .ref (a 30)), (1, .int x1)] [] (fun x u => x = r ∧ u = (wK cB cI cJ cZ cS a s')) := by
  intro p e s0 m below meth c A E H locs ls hP hD hS hl
  obtain ⟨C, hr, hlocks, hA, hK, hN⟩ := id E
  obtain ⟨hx, hb, hml, hown, hts⟩ := id C
  unfold kX9_splitDigits_78 at hB
  refine lv_aload_n hx hb dX9_splitDigits_78 rfl (lv_at hl 0 rfl) ?_
  refine q_get (v := .int (s.v 20)) C inX9_splitDigits_X9 hK hP 30 rfl rfl 5 (by decide) rfl LX9_splitDigits_47 rfl dX9_splitDigits_79 ?_
  refine lv_iload_n hx hb dX9_splitDigits_82 rfl (lv_at hl 1 rfl) ?_
  refine lv_isub hx hb dX9_splitDigits_83 ?_
  refine lv_iconst (v := 4) hx hb dX9_splitDigits_84 (by decide) ?_
  refine lv_icmp_le (tgt := 94) hx hb dX9_splitDigits_85 (by decide) (fun c1 => ?_) (fun c1 => ?_)
  · have hB := if_p hB c1
    refine lv_sipush (v := 301) hx hb dX9_splitDigits_94 (by decide) ?_
    exact q_iret C hr hlocks hK hP hD hS (Nat.le_of_ble_eq_true rfl) (Nat.le_of_ble_eq_true rfl) dX9_splitDigits_97 (by cases hB; exact ⟨rfl, rfl⟩)
  · have hB := if_n hB c1
    refine lv_sipush (v := 303) hx hb dX9_splitDigits_88 (by decide) ?_
    refine lv_goto (tgt := 97) hx hb dX9_splitDigits_91 (by decide) ?_
    exact q_iret C hr hlocks hK hP hD hS (Nat.le_of_ble_eq_true rfl) (Nat.le_of_ble_eq_true rfl) dX9_splitDigits_97 (by cases hB; exact ⟨rfl, rfl⟩)
set_option maxHeartbeats 4000000 in
set_option maxRecDepth 100000 in
theorem bkX9_splitDigits_5 {l : Launch} {dC : Nat → ClassId} {dI : Nat → Nat → Nat} {cB cI cJ cZ cS : ClassId} {a : Nat → Nat} {as : List Value} {r : Int32} {s' : KS} {k5 : KS → Int32 → Option (Int32 × KS)} (hk5 : ∀ (s : KS) (x1 : Int32), k5 s x1 = some (r, s') → BlkI l yX9_splitDigits wsX9_splitDigits ({ frames := 1, cells := 0, slots := 0, locals := 21 }) cX9_splitDigits 2 (some .int) (dC, dI) (tysA cB cI cJ cZ cS) as 5 (wK cB cI cJ cZ cS a s) [(0, .ref (a 30)), (1, .int x1)] [] (fun x u => x = r ∧ u = (wK cB cI cJ cZ cS a s'))) (s : KS) (x1 : Int32) (hB : kX9_splitDigits_5 k5 s x1 = some (r, s')) : BlkI l yX9_splitDigits wsX9_splitDigits ({ frames := 1, cells := 0, slots := 0, locals := 21 }) cX9_splitDigits 2 (some .int) (dC, dI) (tysA cB cI cJ cZ cS) as 5 (wK cB cI cJ cZ cS a s) [(0, .ref (a 30)), (1, .int x1)] [] (fun x u => x = r ∧ u = (wK cB cI cJ cZ cS a s')) := by
  intro p e s0 m below meth c A E H locs ls hP hD hS hl
  obtain ⟨C, hr, hlocks, hA, hK, hN⟩ := id E
  obtain ⟨hx, hb, hml, hown, hts⟩ := id C
  unfold kX9_splitDigits_5 at hB
  refine lv_aload_n hx hb dX9_splitDigits_5 rfl (lv_at hl 0 rfl) ?_
  refine q_get (v := .int (s.v 20)) C inX9_splitDigits_X9 hK hP 30 rfl rfl 5 (by decide) rfl LX9_splitDigits_47 rfl dX9_splitDigits_6 ?_
  refine lv_aload_n hx hb dX9_splitDigits_9 rfl (lv_at hl 0 rfl) ?_
  refine q_get (v := .ref (a 0)) C inX9_splitDigits_X9 hK hP 30 rfl rfl 0 (by decide) rfl LX9_splitDigits_23 rfl dX9_splitDigits_10 ?_
  refine q_getN (v := .int (s.v 0)) C hN inX9_splitDigits_X7 hK hP 0 rfl rfl 1 (by decide) rfl nwF_X9_61 rfl dX9_splitDigits_13 ?_
  refine lv_icmp_ge (tgt := 78) hx hb dX9_splitDigits_16 (by decide) (fun c1 => ?_) (fun c1 => ?_)
  · have hB := if_p hB c1
    exact bkX9_splitDigits_78 _ _ hB p e s0 m below meth c A E H locs ls hP hD hS (lv_sub hl [0, 1] rfl)
  · have hB := if_n hB c1
    refine lv_aload_n hx hb dX9_splitDigits_19 rfl (lv_at hl 0 rfl) ?_
    refine q_get (v := .ref (a 0)) C inX9_splitDigits_X9 hK hP 30 rfl rfl 0 (by decide) rfl LX9_splitDigits_23 rfl dX9_splitDigits_20 ?_
    refine lv_aload_n hx hb dX9_splitDigits_23 rfl (lv_at hl 0 rfl) ?_
    refine q_get (v := .int (s.v 20)) C inX9_splitDigits_X9 hK hP 30 rfl rfl 5 (by decide) rfl LX9_splitDigits_47 rfl dX9_splitDigits_24 ?_
    obtain ⟨q_, s2, hc, hB⟩ := bindI_inv hB
    refine q_goiF (va_runVN (As := [.int (s.v 20)]) (rest := []) C (ckX7_byteAt hc _) ⟨va_cnB 1 hts gX9_splitDigits_X7_byteAt_n65 rfl rfl rfl (hN _ nwM_X9_65 rfl) (hts _ LX9_splitDigits_I_X7) (by decide +kernel) ⟨Nat.le_of_ble_eq_true rfl, Nat.le_of_ble_eq_true rfl⟩, hts _ LX9_splitDigits_N_X7_byteAt, hts _ LX9_splitDigits_E_X7_byteAt⟩ (q_preV hK hP (ci := 7) (q0 := 0) rfl rfl rfl (q_preF hN hK hP hD)) rfl rfl hl.1 rfl (lv_room (Nat.le_of_ble_eq_true rfl)) dX9_splitDigits_27 ⟨Nat.le_of_ble_eq_true rfl, Nat.le_of_ble_eq_true rfl⟩) hD hS hA (fun r3 w1 H locs hw hP hD hS => ?_)
    obtain ⟨hq_, hw⟩ := hw; subst hw; subst hq_
    obtain ⟨q_, hc, hB⟩ := bindP_inv hB
    refine q_goi0 (va_runS (As := [.int r3]) (rest := []) C (ckX9_isDigit hc _) (va_cwS 1 hts gX9_splitDigits_X9_isDigit rfl rfl rfl (by decide +kernel) ⟨Nat.le_of_ble_eq_true rfl, Nat.le_of_ble_eq_true rfl⟩) (q_pre0 hN hK) rfl rfl hl.1 rfl (lv_room (Nat.le_of_ble_eq_true rfl)) dX9_splitDigits_30 ⟨Nat.le_of_ble_eq_true rfl, Nat.le_of_ble_eq_true rfl⟩) hP hD hS hA (fun r4 w1 H locs hw hP hS => ?_)
    subst hw
    refine lv_if_eq (tgt := 78) hx hb dX9_splitDigits_33 (by decide) (fun c5 => ?_) (fun c5 => ?_)
    · have hB := if_p hB c5
      exact bkX9_splitDigits_78 _ _ hB p e s0 m below meth c A E H locs ls hP hD hS (lv_sub hl [0, 1] rfl)
    · have hB := if_n hB c5
      refine lv_aload_n hx hb dX9_splitDigits_36 rfl (lv_at hl 0 rfl) ?_
      refine lv_aload_n hx hb dX9_splitDigits_37 rfl (lv_at hl 0 rfl) ?_
      refine q_get (v := .long (s2.u 0)) C inX9_splitDigits_X9 hK hP 30 rfl rfl 6 (by decide) rfl LX9_splitDigits_57 rfl dX9_splitDigits_38 ?_
      refine lv_ldc2 (v := 10) hx hb hown (hts _ LX9_splitDigits_K86) dX9_splitDigits_41 ?_
      refine lv_lmul hx hb dX9_splitDigits_44 ?_
      refine lv_aload_n hx hb dX9_splitDigits_45 rfl (lv_at hl 0 rfl) ?_
      refine q_get (v := .ref (a 0)) C inX9_splitDigits_X9 hK hP 30 rfl rfl 0 (by decide) rfl LX9_splitDigits_23 rfl dX9_splitDigits_46 ?_
      refine lv_aload_n hx hb dX9_splitDigits_49 rfl (lv_at hl 0 rfl) ?_
      refine q_get (v := .int (s2.v 20)) C inX9_splitDigits_X9 hK hP 30 rfl rfl 5 (by decide) rfl LX9_splitDigits_47 rfl dX9_splitDigits_50 ?_
      obtain ⟨q_, s6, hc, hB⟩ := bindI_inv hB
      refine q_goiF (va_runVN (As := [.int (s2.v 20)]) (rest := [.long ((s2.u 0) * 10), .ref (a 30)]) C (ckX7_byteAt hc _) ⟨va_cnB 1 hts gX9_splitDigits_X7_byteAt_n65 rfl rfl rfl (hN _ nwM_X9_65 rfl) (hts _ LX9_splitDigits_I_X7) (by decide +kernel) ⟨Nat.le_of_ble_eq_true rfl, Nat.le_of_ble_eq_true rfl⟩, hts _ LX9_splitDigits_N_X7_byteAt, hts _ LX9_splitDigits_E_X7_byteAt⟩ (q_preV hK hP (ci := 7) (q0 := 0) rfl rfl rfl (q_preF hN hK hP hD)) rfl rfl hl.1 rfl (lv_room (Nat.le_of_ble_eq_true rfl)) dX9_splitDigits_53 ⟨Nat.le_of_ble_eq_true rfl, Nat.le_of_ble_eq_true rfl⟩) hD hS hA (fun r7 w1 H locs hw hP hD hS => ?_)
      obtain ⟨hq_, hw⟩ := hw; subst hw; subst hq_
      refine lv_i2l hx hb dX9_splitDigits_56 rfl ?_
      refine lv_ladd hx hb dX9_splitDigits_57 ?_
      refine lv_ldc2 (v := 48) hx hb hown (hts _ LX9_splitDigits_K88) dX9_splitDigits_58 ?_
      refine lv_lsub hx hb dX9_splitDigits_61 ?_
      obtain ⟨s8, hs9, hB⟩ := letS_inv hB
      refine q_put (ty := .long) (w2 := (wK cB cI cJ cZ cS a s8)) tyX9 tyX9_ok nmX9 C inX9_splitDigits_X9 hK hP hD hS 30 rfl rfl 6 (by decide) rfl LX9_splitDigits_57 rfl (by decide +kernel) (rfl) rfl (Nat.le_of_ble_eq_true rfl) dX9_splitDigits_62 (by subst hs9; rfl) (fun H locs hP hD hS => ?_)
      refine lv_aload_n hx hb dX9_splitDigits_65 rfl (lv_at hl 0 rfl) ?_
      refine lv_dup hx hb dX9_splitDigits_66 rfl ?_
      refine q_get (v := .int (s8.v 20)) C inX9_splitDigits_X9 hK hP 30 rfl rfl 5 (by decide) rfl LX9_splitDigits_47 rfl dX9_splitDigits_67 ?_
      refine lv_iconst (v := 1) hx hb dX9_splitDigits_70 (by decide) ?_
      refine lv_iadd hx hb dX9_splitDigits_71 ?_
      obtain ⟨s10, hs11, hB⟩ := letS_inv hB
      refine q_put (ty := .int) (w2 := (wK cB cI cJ cZ cS a s10)) tyX9 tyX9_ok nmX9 C inX9_splitDigits_X9 hK hP hD hS 30 rfl rfl 5 (by decide) rfl LX9_splitDigits_47 rfl (by decide +kernel) (rfl) rfl (Nat.le_of_ble_eq_true rfl) dX9_splitDigits_72 (by subst hs11; rfl) (fun H locs hP hD hS => ?_)
      refine lv_goto (tgt := 5) hx hb dX9_splitDigits_75 (by decide) ?_
      exact hk5 _ _ hB p e s0 m below meth c A E H locs ls hP hD hS (lv_sub hl [0, 1] rfl)
theorem bkX9_splitDigits_5L {l : Launch} {dC : Nat → ClassId} {dI : Nat → Nat → Nat} {cB cI cJ cZ cS : ClassId} {a : Nat → Nat} {as : List Value} {r : Int32} {s' : KS} : ∀ (n : Nat) (s : KS) (x1 : Int32), kX9_splitDigits_5L n s x1 = some (r, s') → BlkI l yX9_splitDigits wsX9_splitDigits ({ frames := 1, cells := 0, slots := 0, locals := 21 }) cX9_splitDigits 2 (some .int) (dC, dI) (tysA cB cI cJ cZ cS) as 5 (wK cB cI cJ cZ cS a s) [(0, .ref (a 30)), (1, .int x1)] [] (fun x u => x = r ∧ u = (wK cB cI cJ cZ cS a s')) := by
  intro n
  induction n with
  | zero => intro s x1 hB; exact none_ne hB
  | succ n ih => intro s x1 hB; exact bkX9_splitDigits_5 ih _ _ hB
set_option maxHeartbeats 4000000 in
set_option maxRecDepth 100000 in
theorem bkX9_splitDigits {l : Launch} {dC : Nat → ClassId} {dI : Nat → Nat → Nat} {cB cI cJ cZ cS : ClassId} {a : Nat → Nat} {as : List Value} {r : Int32} {s' : KS} (s : KS) (hB : kX9_splitDigits s = some (r, s')) : BlkI l yX9_splitDigits wsX9_splitDigits ({ frames := 1, cells := 0, slots := 0, locals := 21 }) cX9_splitDigits 2 (some .int) (dC, dI) (tysA cB cI cJ cZ cS) as 0 (wK cB cI cJ cZ cS a s) [(0, .ref (a 30))] [] (fun x u => x = r ∧ u = (wK cB cI cJ cZ cS a s')) := by
  intro p e s0 m below meth c A E H locs ls hP hD hS hl
  obtain ⟨C, hr, hlocks, hA, hK, hN⟩ := id E
  obtain ⟨hx, hb, hml, hown, hts⟩ := id C
  unfold kX9_splitDigits at hB
  refine lv_aload_n hx hb dX9_splitDigits_0 rfl (lv_at hl 0 rfl) ?_
  refine q_get (v := .int (s.v 20)) C inX9_splitDigits_X9 hK hP 30 rfl rfl 5 (by decide) rfl LX9_splitDigits_47 rfl dX9_splitDigits_1 ?_
  refine lv_istore_n (lv' := [(1, .int (s.v 20)), (0, .ref (a 30))]) hx hb dX9_splitDigits_4 rfl hl (by decide) rfl (fun ls hl => ?_)
  exact bkX9_splitDigits_5L fu _ _ hB p e s0 m below meth c A E H locs ls hP hD hS (lv_sub hl [1, 0] rfl)
theorem ckX9_splitDigits {l : Launch} {dC : Nat → ClassId} {dI : Nat → Nat → Nat} {cB cI cJ cZ cS : ClassId} {a : Nat → Nat} {r : Int32} {s' : KS} {s : KS} (hB : kX9_splitDigits s = some (r, s')) : CI l yX9_splitDigits wsX9_splitDigits ({ frames := 1, cells := 0, slots := 0, locals := 21 }) (dC, dI) (tysA cB cI cJ cZ cS) (wK cB cI cJ cZ cS a s) [.ref (a 30)] (fun x u => x = r ∧ u = (wK cB cI cJ cZ cS a s')) :=
  CI_of (cc := cX9_splitDigits) (maxL := 2) (ret := (some .int)) (by decide) rfl (Nat.le_of_ble_eq_true rfl) (bkX9_splitDigits _ hB)
theorem LX10_feed_10 : Cond.fieldLink RX10 10 "GuessFerry" "tape" "LGuessFerry$Tape;" ∈ wsX10_feed := by decide +kernel
theorem LX10_feed_E_X7_addFour : Cond.selects RX7 yX7_addFour yX7_addFour ∈ wsX10_feed := by decide +kernel
theorem LX10_feed_E_X7_hasRoomFor : Cond.selects RX7 yX7_hasRoomFor yX7_hasRoomFor ∈ wsX10_feed := by decide +kernel
theorem LX10_feed_I_X7 : Cond.initialized RX7 ∈ wsX10_feed := by decide +kernel
theorem LX10_feed_N_X7_addFour : Cond.instanceMethod yX7_addFour ∈ wsX10_feed := by decide +kernel
theorem LX10_feed_N_X7_hasRoomFor : Cond.instanceMethod yX7_hasRoomFor ∈ wsX10_feed := by decide +kernel
theorem inX10_feed_X10 : ∀ w ∈ u_ws RX10 TX10 9, w ∈ wsX10_feed := by decide +kernel
theorem inX10_feed_X7 : ∀ w ∈ u_ws RX7 TX7 2, w ∈ wsX10_feed := by decide +kernel
set_option maxHeartbeats 4000000 in
set_option maxRecDepth 100000 in
theorem bkX10_feed {l : Launch} {dC : Nat → ClassId} {dI : Nat → Nat → Nat} {cB cI cJ cZ cS : ClassId} {a b b2 c0 : Nat → Nat} {rg sl : Nat → Option Nat} {as : List Value} {r : Int32} {s' : XS} (s : XS) (x1 : Int32) (x2 : Int32) (x3 : Int32) (x4 : Int32) (x5 : Int32) (hB : kX10_feed s x1 x2 x3 x4 x5 = some (r, s')) : BlkI l yX10_feed wsX10_feed ({ frames := 1, cells := 0, slots := 0, locals := 22 }) cX10_feed 6 (some .int) (dC, dI) (tysA cB cI cJ cZ cS) as 0 (wX cB cI cJ cZ cS a b b2 c0 rg sl s) [(0, .ref (c0 0)), (1, .int x1), (2, .int x2), (3, .int x3), (4, .int x4), (5, .int x5)] [] (fun x u => x = r ∧ u = (wX cB cI cJ cZ cS a b b2 c0 rg sl s')) := by
  intro p e s0 m below meth c A E H locs ls hP hD hS hl
  obtain ⟨C, hr, hlocks, hA, hK, hN⟩ := id E
  obtain ⟨hx, hb, hml, hown, hts⟩ := id C
  unfold kX10_feed at hB
  refine lv_aload_n hx hb dX10_feed_0 rfl (lv_at hl 0 rfl) ?_
  refine q_get (v := .ref (a 0)) C inX10_feed_X10 hK hP 0 rfl rfl 0 (by decide) rfl LX10_feed_10 rfl dX10_feed_1 ?_
  refine lv_bipush (v := 20) hx hb dX10_feed_4 (by decide) ?_
  obtain ⟨q_, s1, hc, hB⟩ := bindI_inv hB
  refine q_goi (wr := ((wG cZ cS a b b2 c0 rg sl s.g) ++ (wD cI b2 s.t) ++ (wD cI b s.n))) (va_runVN (As := [.int 20]) (rest := []) C (ckX7_hasRoomFor hc _) ⟨va_cnB 1 hts gX10_feed_X7_hasRoomFor_n77 rfl rfl rfl (hN _ nwM_X10_77 rfl) (hts _ LX10_feed_I_X7) (by decide +kernel) ⟨Nat.le_of_ble_eq_true rfl, Nat.le_of_ble_eq_true rfl⟩, hts _ LX10_feed_N_X7_hasRoomFor, hts _ LX10_feed_E_X7_hasRoomFor⟩ (q_preV hK hP (ci := 7) (q0 := 17) rfl rfl rfl (q_pre hN hK hP hD [17, 18, 19, 20, 21, 22, 23, 24, 25, 26, 27, 28, 29, 30, 31, 32, 33, 34, 35, 36, 37, 38, 39, 40, 41, 42, 43, 44, 45, 46, 47, 48, 49, 50, 51, 52, 53, 54, 55, 56, 57, 58, 59, 60, 61, 62, 63] rfl (by decide))) rfl rfl hl.1 rfl (lv_room (Nat.le_of_ble_eq_true rfl)) dX10_feed_6 ⟨Nat.le_of_ble_eq_true rfl, Nat.le_of_ble_eq_true rfl⟩) hP hD hS hA [17, 18, 19, 20, 21, 22, 23, 24, 25, 26, 27, 28, 29, 30, 31, 32, 33, 34, 35, 36, 37, 38, 39, 40, 41, 42, 43, 44, 45, 46, 47, 48, 49, 50, 51, 52, 53, 54, 55, 56, 57, 58, 59, 60, 61, 62, 63] [0, 1, 2, 3, 4, 5, 6, 7, 8, 9, 10, 11, 12, 13, 14, 15, 16] rfl rfl (by decide) (by decide) (fun r2 w1 H locs hw hP hD hS => ?_)
  obtain ⟨hq_, hw⟩ := hw; subst hw; subst hq_
  obtain ⟨s3, hs4, hB⟩ := letS_inv hB
  have hP : va_P (dC, dI) vwCl (wX cB cI cJ cZ cS a b b2 c0 rg sl s3) H := by subst hs4; exact hP
  have hD : va_D A (wX cB cI cJ cZ cS a b b2 c0 rg sl s3) := by subst hs4; exact hD
  refine lv_if_ne (tgt := 14) hx hb dX10_feed_9 (by decide) (fun c5 => ?_) (fun c5 => ?_)
  · have hB := if_n hB c5
    refine lv_aload_n hx hb dX10_feed_14 rfl (lv_at hl 0 rfl) ?_
    refine q_get (v := .ref (a 0)) C inX10_feed_X10 hK hP 0 rfl rfl 0 (by decide) rfl LX10_feed_10 rfl dX10_feed_15 ?_
    refine lv_iload_n hx hb dX10_feed_18 rfl (lv_at hl 1 rfl) ?_
    obtain ⟨s6, hc, hB⟩ := bindP_inv hB
    refine q_gov (wr := ((wG cZ cS a b b2 c0 rg sl s3.g) ++ (wD cI b2 s3.t) ++ (wD cI b s3.n))) (va_runVN (As := [.int x1]) (rest := []) C (ckX7_addFour hc _) ⟨va_cnB 1 hts gX10_feed_X7_addFour_n81 rfl rfl rfl (hN _ nwM_X10_81 rfl) (hts _ LX10_feed_I_X7) (by decide +kernel) ⟨Nat.le_of_ble_eq_true rfl, Nat.le_of_ble_eq_true rfl⟩, hts _ LX10_feed_N_X7_addFour, hts _ LX10_feed_E_X7_addFour⟩ (q_preV hK hP (ci := 7) (q0 := 17) rfl rfl rfl (q_pre hN hK hP hD [17, 18, 19, 20, 21, 22, 23, 24, 25, 26, 27, 28, 29, 30, 31, 32, 33, 34, 35, 36, 37, 38, 39, 40, 41, 42, 43, 44, 45, 46, 47, 48, 49, 50, 51, 52, 53, 54, 55, 56, 57, 58, 59, 60, 61, 62, 63] rfl (by decide))) rfl rfl hl.1 rfl (lv_room (Nat.le_of_ble_eq_true rfl)) dX10_feed_19 ⟨Nat.le_of_ble_eq_true rfl, Nat.le_of_ble_eq_true rfl⟩) hP hD hS hA [17, 18, 19, 20, 21, 22, 23, 24, 25, 26, 27, 28, 29, 30, 31, 32, 33, 34, 35, 36, 37, 38, 39, 40, 41, 42, 43, 44, 45, 46, 47, 48, 49, 50, 51, 52, 53, 54, 55, 56, 57, 58, 59, 60, 61, 62, 63] [0, 1, 2, 3, 4, 5, 6, 7, 8, 9, 10, 11, 12, 13, 14, 15, 16] rfl rfl (by decide) (by decide) (fun w1 H locs hw hP hD hS => ?_)
    subst hw
    obtain ⟨s7, hs8, hB⟩ := letS_inv hB
    have hP : va_P (dC, dI) vwCl (wX cB cI cJ cZ cS a b b2 c0 rg sl s7) H := by subst hs8; exact hP
    have hD : va_D A (wX cB cI cJ cZ cS a b b2 c0 rg sl s7) := by subst hs8; exact hD
    refine lv_aload_n hx hb dX10_feed_22 rfl (lv_at hl 0 rfl) ?_
    refine q_get (v := .ref (a 0)) C inX10_feed_X10 hK hP 0 rfl rfl 0 (by decide) rfl LX10_feed_10 rfl dX10_feed_23 ?_
    refine lv_iload_n hx hb dX10_feed_26 rfl (lv_at hl 2 rfl) ?_
    obtain ⟨s9, hc, hB⟩ := bindP_inv hB
    refine q_gov (wr := ((wG cZ cS a b b2 c0 rg sl s7.g) ++ (wD cI b2 s7.t) ++ (wD cI b s7.n))) (va_runVN (As := [.int x2]) (rest := []) C (ckX7_addFour hc _) ⟨va_cnB 1 hts gX10_feed_X7_addFour_n81 rfl rfl rfl (hN _ nwM_X10_81 rfl) (hts _ LX10_feed_I_X7) (by decide +kernel) ⟨Nat.le_of_ble_eq_true rfl, Nat.le_of_ble_eq_true rfl⟩, hts _ LX10_feed_N_X7_addFour, hts _ LX10_feed_E_X7_addFour⟩ (q_preV hK hP (ci := 7) (q0 := 17) rfl rfl rfl (q_pre hN hK hP hD [17, 18, 19, 20, 21, 22, 23, 24, 25, 26, 27, 28, 29, 30, 31, 32, 33, 34, 35, 36, 37, 38, 39, 40, 41, 42, 43, 44, 45, 46, 47, 48, 49, 50, 51, 52, 53, 54, 55, 56, 57, 58, 59, 60, 61, 62, 63] rfl (by decide))) rfl rfl hl.1 rfl (lv_room (Nat.le_of_ble_eq_true rfl)) dX10_feed_27 ⟨Nat.le_of_ble_eq_true rfl, Nat.le_of_ble_eq_true rfl⟩) hP hD hS hA [17, 18, 19, 20, 21, 22, 23, 24, 25, 26, 27, 28, 29, 30, 31, 32, 33, 34, 35, 36, 37, 38, 39, 40, 41, 42, 43, 44, 45, 46, 47, 48, 49, 50, 51, 52, 53, 54, 55, 56, 57, 58, 59, 60, 61, 62, 63] [0, 1, 2, 3, 4, 5, 6, 7, 8, 9, 10, 11, 12, 13, 14, 15, 16] rfl rfl (by decide) (by decide) (fun w1 H locs hw hP hD hS => ?_)
    subst hw
    obtain ⟨s10, hs11, hB⟩ := letS_inv hB
    have hP : va_P (dC, dI) vwCl (wX cB cI cJ cZ cS a b b2 c0 rg sl s10) H := by subst hs11; exact hP
    have hD : va_D A (wX cB cI cJ cZ cS a b b2 c0 rg sl s10) := by subst hs11; exact hD
    refine lv_aload_n hx hb dX10_feed_30 rfl (lv_at hl 0 rfl) ?_
    refine q_get (v := .ref (a 0)) C inX10_feed_X10 hK hP 0 rfl rfl 0 (by decide) rfl LX10_feed_10 rfl dX10_feed_31 ?_
    refine lv_iload_n hx hb dX10_feed_34 rfl (lv_at hl 3 rfl) ?_
    obtain ⟨s12, hc, hB⟩ := bindP_inv hB
    refine q_gov (wr := ((wG cZ cS a b b2 c0 rg sl s10.g) ++ (wD cI b2 s10.t) ++ (wD cI b s10.n))) (va_runVN (As := [.int x3]) (rest := []) C (ckX7_addFour hc _) ⟨va_cnB 1 hts gX10_feed_X7_addFour_n81 rfl rfl rfl (hN _ nwM_X10_81 rfl) (hts _ LX10_feed_I_X7) (by decide +kernel) ⟨Nat.le_of_ble_eq_true rfl, Nat.le_of_ble_eq_true rfl⟩, hts _ LX10_feed_N_X7_addFour, hts _ LX10_feed_E_X7_addFour⟩ (q_preV hK hP (ci := 7) (q0 := 17) rfl rfl rfl (q_pre hN hK hP hD [17, 18, 19, 20, 21, 22, 23, 24, 25, 26, 27, 28, 29, 30, 31, 32, 33, 34, 35, 36, 37, 38, 39, 40, 41, 42, 43, 44, 45, 46, 47, 48, 49, 50, 51, 52, 53, 54, 55, 56, 57, 58, 59, 60, 61, 62, 63] rfl (by decide))) rfl rfl hl.1 rfl (lv_room (Nat.le_of_ble_eq_true rfl)) dX10_feed_35 ⟨Nat.le_of_ble_eq_true rfl, Nat.le_of_ble_eq_true rfl⟩) hP hD hS hA [17, 18, 19, 20, 21, 22, 23, 24, 25, 26, 27, 28, 29, 30, 31, 32, 33, 34, 35, 36, 37, 38, 39, 40, 41, 42, 43, 44, 45, 46, 47, 48, 49, 50, 51, 52, 53, 54, 55, 56, 57, 58, 59, 60, 61, 62, 63] [0, 1, 2, 3, 4, 5, 6, 7, 8, 9, 10, 11, 12, 13, 14, 15, 16] rfl rfl (by decide) (by decide) (fun w1 H locs hw hP hD hS => ?_)
    subst hw
    obtain ⟨s13, hs14, hB⟩ := letS_inv hB
    have hP : va_P (dC, dI) vwCl (wX cB cI cJ cZ cS a b b2 c0 rg sl s13) H := by subst hs14; exact hP
    have hD : va_D A (wX cB cI cJ cZ cS a b b2 c0 rg sl s13) := by subst hs14; exact hD
    refine lv_aload_n hx hb dX10_feed_38 rfl (lv_at hl 0 rfl) ?_
    refine q_get (v := .ref (a 0)) C inX10_feed_X10 hK hP 0 rfl rfl 0 (by decide) rfl LX10_feed_10 rfl dX10_feed_39 ?_
    refine lv_iload hx hb dX10_feed_42 (lv_at hl 4 rfl) ?_
    obtain ⟨s15, hc, hB⟩ := bindP_inv hB
    refine q_gov (wr := ((wG cZ cS a b b2 c0 rg sl s13.g) ++ (wD cI b2 s13.t) ++ (wD cI b s13.n))) (va_runVN (As := [.int x4]) (rest := []) C (ckX7_addFour hc _) ⟨va_cnB 1 hts gX10_feed_X7_addFour_n81 rfl rfl rfl (hN _ nwM_X10_81 rfl) (hts _ LX10_feed_I_X7) (by decide +kernel) ⟨Nat.le_of_ble_eq_true rfl, Nat.le_of_ble_eq_true rfl⟩, hts _ LX10_feed_N_X7_addFour, hts _ LX10_feed_E_X7_addFour⟩ (q_preV hK hP (ci := 7) (q0 := 17) rfl rfl rfl (q_pre hN hK hP hD [17, 18, 19, 20, 21, 22, 23, 24, 25, 26, 27, 28, 29, 30, 31, 32, 33, 34, 35, 36, 37, 38, 39, 40, 41, 42, 43, 44, 45, 46, 47, 48, 49, 50, 51, 52, 53, 54, 55, 56, 57, 58, 59, 60, 61, 62, 63] rfl (by decide))) rfl rfl hl.1 rfl (lv_room (Nat.le_of_ble_eq_true rfl)) dX10_feed_44 ⟨Nat.le_of_ble_eq_true rfl, Nat.le_of_ble_eq_true rfl⟩) hP hD hS hA [17, 18, 19, 20, 21, 22, 23, 24, 25, 26, 27, 28, 29, 30, 31, 32, 33, 34, 35, 36, 37, 38, 39, 40, 41, 42, 43, 44, 45, 46, 47, 48, 49, 50, 51, 52, 53, 54, 55, 56, 57, 58, 59, 60, 61, 62, 63] [0, 1, 2, 3, 4, 5, 6, 7, 8, 9, 10, 11, 12, 13, 14, 15, 16] rfl rfl (by decide) (by decide) (fun w1 H locs hw hP hD hS => ?_)
    subst hw
    obtain ⟨s16, hs17, hB⟩ := letS_inv hB
    have hP : va_P (dC, dI) vwCl (wX cB cI cJ cZ cS a b b2 c0 rg sl s16) H := by subst hs17; exact hP
    have hD : va_D A (wX cB cI cJ cZ cS a b b2 c0 rg sl s16) := by subst hs17; exact hD
    refine lv_aload_n hx hb dX10_feed_47 rfl (lv_at hl 0 rfl) ?_
    refine q_get (v := .ref (a 0)) C inX10_feed_X10 hK hP 0 rfl rfl 0 (by decide) rfl LX10_feed_10 rfl dX10_feed_48 ?_
    refine lv_iload hx hb dX10_feed_51 (lv_at hl 5 rfl) ?_
    obtain ⟨s18, hc, hB⟩ := bindP_inv hB
    refine q_gov (wr := ((wG cZ cS a b b2 c0 rg sl s16.g) ++ (wD cI b2 s16.t) ++ (wD cI b s16.n))) (va_runVN (As := [.int x5]) (rest := []) C (ckX7_addFour hc _) ⟨va_cnB 1 hts gX10_feed_X7_addFour_n81 rfl rfl rfl (hN _ nwM_X10_81 rfl) (hts _ LX10_feed_I_X7) (by decide +kernel) ⟨Nat.le_of_ble_eq_true rfl, Nat.le_of_ble_eq_true rfl⟩, hts _ LX10_feed_N_X7_addFour, hts _ LX10_feed_E_X7_addFour⟩ (q_preV hK hP (ci := 7) (q0 := 17) rfl rfl rfl (q_pre hN hK hP hD [17, 18, 19, 20, 21, 22, 23, 24, 25, 26, 27, 28, 29, 30, 31, 32, 33, 34, 35, 36, 37, 38, 39, 40, 41, 42, 43, 44, 45, 46, 47, 48, 49, 50, 51, 52, 53, 54, 55, 56, 57, 58, 59, 60, 61, 62, 63] rfl (by decide))) rfl rfl hl.1 rfl (lv_room (Nat.le_of_ble_eq_true rfl)) dX10_feed_53 ⟨Nat.le_of_ble_eq_true rfl, Nat.le_of_ble_eq_true rfl⟩) hP hD hS hA [17, 18, 19, 20, 21, 22, 23, 24, 25, 26, 27, 28, 29, 30, 31, 32, 33, 34, 35, 36, 37, 38, 39, 40, 41, 42, 43, 44, 45, 46, 47, 48, 49, 50, 51, 52, 53, 54, 55, 56, 57, 58, 59, 60, 61, 62, 63] [0, 1, 2, 3, 4, 5, 6, 7, 8, 9, 10, 11, 12, 13, 14, 15, 16] rfl rfl (by decide) (by decide) (fun w1 H locs hw hP hD hS => ?_)
    subst hw
    obtain ⟨s19, hs20, hB⟩ := letS_inv hB
    have hP : va_P (dC, dI) vwCl (wX cB cI cJ cZ cS a b b2 c0 rg sl s19) H := by subst hs20; exact hP
    have hD : va_D A (wX cB cI cJ cZ cS a b b2 c0 rg sl s19) := by subst hs20; exact hD
    refine lv_aload_n hx hb dX10_feed_56 rfl (lv_at hl 0 rfl) ?_
    refine q_get (v := .ref (a 0)) C inX10_feed_X10 hK hP 0 rfl rfl 0 (by decide) rfl LX10_feed_10 rfl dX10_feed_57 ?_
    refine q_getN (v := .int (s19.k.v 0)) C hN inX10_feed_X7 hK hP 17 rfl rfl 1 (by decide) rfl nwF_X10_85 rfl dX10_feed_60 ?_
    exact q_iret C hr hlocks hK hP hD hS (Nat.le_of_ble_eq_true rfl) (Nat.le_of_ble_eq_true rfl) dX10_feed_63 (by cases hB; exact ⟨rfl, rfl⟩)
  · have hB := if_p hB c5
    refine lv_iconst (v := (-1)) hx hb dX10_feed_12 (by decide) ?_
    exact q_iret C hr hlocks hK hP hD hS (Nat.le_of_ble_eq_true rfl) (Nat.le_of_ble_eq_true rfl) dX10_feed_13 (by cases hB; exact ⟨rfl, rfl⟩)
theorem ckX10_feed {l : Launch} {dC : Nat → ClassId} {dI : Nat → Nat → Nat} {cB cI cJ cZ cS : ClassId} {a b b2 c0 : Nat → Nat} {rg sl : Nat → Option Nat} {r : Int32} {s' : XS} {s : XS} {x1 : Int32} {x2 : Int32} {x3 : Int32} {x4 : Int32} {x5 : Int32} (hB : kX10_feed s x1 x2 x3 x4 x5 = some (r, s')) : CI l yX10_feed wsX10_feed ({ frames := 1, cells := 0, slots := 0, locals := 22 }) (dC, dI) (tysA cB cI cJ cZ cS) (wX cB cI cJ cZ cS a b b2 c0 rg sl s) [.ref (c0 0), .int x1, .int x2, .int x3, .int x4, .int x5] (fun x u => x = r ∧ u = (wX cB cI cJ cZ cS a b b2 c0 rg sl s')) :=
  CI_of (cc := cX10_feed) (maxL := 6) (ret := (some .int)) (by decide) rfl (Nat.le_of_ble_eq_true rfl) (bkX10_feed _ _ _ _ _ _ hB)
theorem LX10_back_10 : Cond.fieldLink RX10 10 "GuessFerry" "tape" "LGuessFerry$Tape;" ∈ wsX10_back := by decide +kernel
theorem inX10_back_X10 : ∀ w ∈ u_ws RX10 TX10 9, w ∈ wsX10_back := fun _ h => List.mem_cons_of_mem _ (List.mem_append_left _ (List.mem_append_right _ h))
theorem inX10_back_X7 : ∀ w ∈ u_ws RX7 TX7 2, w ∈ wsX10_back := fun _ h => List.mem_cons_of_mem _ (List.mem_append_right _ h)
set_option maxHeartbeats 4000000 in
set_option maxRecDepth 100000 in
theorem bkX10_back {l : Launch} {dC : Nat → ClassId} {dI : Nat → Nat → Nat} {cB cI cJ cZ cS : ClassId} {a b b2 c0 : Nat → Nat} {rg sl : Nat → Option Nat} {as : List Value} {r : Int32} {s' : XS} (s : XS) (x1 : Int32) (hB : kX10_back s x1 = some (r, s')) : BlkI l yX10_back wsX10_back ({ frames := 0, cells := 0, slots := 0, locals := 0 }) cX10_back 2 (some .int) (dC, dI) (tysA cB cI cJ cZ cS) as 0 (wX cB cI cJ cZ cS a b b2 c0 rg sl s) [(0, .ref (c0 0)), (1, .int x1)] [] (fun x u => x = r ∧ u = (wX cB cI cJ cZ cS a b b2 c0 rg sl s')) := by
  intro p e s0 m below meth c A E H locs ls hP hD hS hl
  obtain ⟨C, hr, hlocks, hA, hK, hN⟩ := id E
  obtain ⟨hx, hb, hml, hown, hts⟩ := id C
  unfold kX10_back at hB
  refine lv_iload_n hx hb dX10_back_0 rfl (lv_at hl 1 rfl) ?_
  refine lv_if_lt (tgt := 15) hx hb dX10_back_1 (by decide) (fun c1 => ?_) (fun c1 => ?_)
  · have hB := if_p hB c1
    refine lv_iconst (v := (-1)) hx hb dX10_back_15 (by decide) ?_
    exact q_iret C hr hlocks hK hP hD hS (Nat.le_of_ble_eq_true rfl) (Nat.le_of_ble_eq_true rfl) dX10_back_16 (by cases hB; exact ⟨rfl, rfl⟩)
  · have hB := if_n hB c1
    refine lv_iload_n hx hb dX10_back_4 rfl (lv_at hl 1 rfl) ?_
    refine lv_aload_n hx hb dX10_back_5 rfl (lv_at hl 0 rfl) ?_
    refine q_get (v := .ref (a 0)) C inX10_back_X10 hK hP 0 rfl rfl 0 (by decide) rfl LX10_back_10 rfl dX10_back_6 ?_
    refine q_getN (v := .int (s.k.v 0)) C hN inX10_back_X7 hK hP 17 rfl rfl 1 (by decide) rfl nwF_X10_85 rfl dX10_back_9 ?_
    refine lv_icmp_le (tgt := 17) hx hb dX10_back_12 (by decide) (fun c2 => ?_) (fun c2 => ?_)
    · have hB := if_p hB c2
      refine lv_aload_n hx hb dX10_back_17 rfl (lv_at hl 0 rfl) ?_
      refine q_get (v := .ref (a 0)) C inX10_back_X10 hK hP 0 rfl rfl 0 (by decide) rfl LX10_back_10 rfl dX10_back_18 ?_
      refine lv_dup hx hb dX10_back_21 rfl ?_
      refine q_getN (v := .int (s.k.v 0)) C hN inX10_back_X7 hK hP 17 rfl rfl 1 (by decide) rfl nwF_X10_85 rfl dX10_back_22 ?_
      refine lv_iload_n hx hb dX10_back_25 rfl (lv_at hl 1 rfl) ?_
      refine lv_isub hx hb dX10_back_26 ?_
      obtain ⟨s3, hs4, hB⟩ := letS_inv hB
      refine q_putN (ty := .int) (w2 := (wX cB cI cJ cZ cS a b b2 c0 rg sl s3)) tyX7 tyX7_ok nmX7 C hN inX10_back_X7 hK hP hD hS 17 rfl rfl 1 (by decide) rfl nwF_X10_85 rfl (by decide +kernel) (rfl) rfl (Nat.le_of_ble_eq_true rfl) dX10_back_27 (by subst hs4; rfl) (fun H locs hP hD hS => ?_)
      refine lv_aload_n hx hb dX10_back_30 rfl (lv_at hl 0 rfl) ?_
      refine q_get (v := .ref (a 0)) C inX10_back_X10 hK hP 0 rfl rfl 0 (by decide) rfl LX10_back_10 rfl dX10_back_31 ?_
      refine q_getN (v := .int (s3.k.v 0)) C hN inX10_back_X7 hK hP 17 rfl rfl 1 (by decide) rfl nwF_X10_85 rfl dX10_back_34 ?_
      exact q_iret C hr hlocks hK hP hD hS (Nat.le_of_ble_eq_true rfl) (Nat.le_of_ble_eq_true rfl) dX10_back_37 (by cases hB; exact ⟨rfl, rfl⟩)
    · have hB := if_n hB c2
      refine lv_iconst (v := (-1)) hx hb dX10_back_15 (by decide) ?_
      exact q_iret C hr hlocks hK hP hD hS (Nat.le_of_ble_eq_true rfl) (Nat.le_of_ble_eq_true rfl) dX10_back_16 (by cases hB; exact ⟨rfl, rfl⟩)
theorem ckX10_back {l : Launch} {dC : Nat → ClassId} {dI : Nat → Nat → Nat} {cB cI cJ cZ cS : ClassId} {a b b2 c0 : Nat → Nat} {rg sl : Nat → Option Nat} {r : Int32} {s' : XS} {s : XS} {x1 : Int32} (hB : kX10_back s x1 = some (r, s')) : CI l yX10_back wsX10_back ({ frames := 0, cells := 0, slots := 0, locals := 0 }) (dC, dI) (tysA cB cI cJ cZ cS) (wX cB cI cJ cZ cS a b b2 c0 rg sl s) [.ref (c0 0), .int x1] (fun x u => x = r ∧ u = (wX cB cI cJ cZ cS a b b2 c0 rg sl s')) :=
  CI_of (cc := cX10_back) (maxL := 2) (ret := (some .int)) (by decide) rfl (Nat.le_of_ble_eq_true rfl) (bkX10_back _ _ hB)
theorem LX10_place_28 : Cond.fieldLink RX10 28 "GuessFerry" "reader" "LGuessFerry$Reader;" ∈ wsX10_place := by decide +kernel
theorem inX10_place_X10 : ∀ w ∈ u_ws RX10 TX10 9, w ∈ wsX10_place := fun _ h => List.mem_cons_of_mem _ (List.mem_append_left _ (List.mem_append_right _ h))
theorem inX10_place_X4 : ∀ w ∈ u_ws RX4 TX4 8, w ∈ wsX10_place := fun _ h => List.mem_cons_of_mem _ (List.mem_append_right _ h)
set_option maxHeartbeats 4000000 in
set_option maxRecDepth 100000 in
theorem bkX10_place {l : Launch} {dC : Nat → ClassId} {dI : Nat → Nat → Nat} {cB cI cJ cZ cS : ClassId} {a b b2 c0 : Nat → Nat} {rg sl : Nat → Option Nat} {as : List Value} {r : Int32} {s' : XS} (s : XS) (hB : kX10_place s = some (r, s')) : BlkI l yX10_place wsX10_place ({ frames := 0, cells := 0, slots := 0, locals := 0 }) cX10_place 1 (some .int) (dC, dI) (tysA cB cI cJ cZ cS) as 0 (wX cB cI cJ cZ cS a b b2 c0 rg sl s) [(0, .ref (c0 0))] [] (fun x u => x = r ∧ u = (wX cB cI cJ cZ cS a b b2 c0 rg sl s')) := by
  intro p e s0 m below meth c A E H locs ls hP hD hS hl
  obtain ⟨C, hr, hlocks, hA, hK, hN⟩ := id E
  obtain ⟨hx, hb, hml, hown, hts⟩ := id C
  unfold kX10_place at hB
  refine lv_aload_n hx hb dX10_place_0 rfl (lv_at hl 0 rfl) ?_
  refine q_get (v := .ref (a 28)) C inX10_place_X10 hK hP 0 rfl rfl 2 (by decide) rfl LX10_place_28 rfl dX10_place_1 ?_
  refine q_getN (v := .int (s.k.v 17)) C hN inX10_place_X4 hK hP 45 rfl rfl 5 (by decide) rfl nwF_X10_105 rfl dX10_place_4 ?_
  exact q_iret C hr hlocks hK hP hD hS (Nat.le_of_ble_eq_true rfl) (Nat.le_of_ble_eq_true rfl) dX10_place_7 (by cases hB; exact ⟨rfl, rfl⟩)
theorem ckX10_place {l : Launch} {dC : Nat → ClassId} {dI : Nat → Nat → Nat} {cB cI cJ cZ cS : ClassId} {a b b2 c0 : Nat → Nat} {rg sl : Nat → Option Nat} {r : Int32} {s' : XS} {s : XS} (hB : kX10_place s = some (r, s')) : CI l yX10_place wsX10_place ({ frames := 0, cells := 0, slots := 0, locals := 0 }) (dC, dI) (tysA cB cI cJ cZ cS) (wX cB cI cJ cZ cS a b b2 c0 rg sl s) [.ref (c0 0)] (fun x u => x = r ∧ u = (wX cB cI cJ cZ cS a b b2 c0 rg sl s')) :=
  CI_of (cc := cX10_place) (maxL := 1) (ret := (some .int)) (by decide) rfl (Nat.le_of_ble_eq_true rfl) (bkX10_place _ hB)
