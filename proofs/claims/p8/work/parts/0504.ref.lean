theorem ggX11_read_X11_cut : GoodIn wsX11_read wsX11_cut := gi_sub (fun w h => List.mem_cons_of_mem _ (List.mem_append_left _ (List.mem_append_right _ (List.mem_append_left _ h)))) gd_wsX11_cut
set_option maxRecDepth 20000 in
theorem gX11_read_X11_cut : GoodIn wsX11_read (wsV RX11 209 RX11 yX11_cut wsX11_cut) := goodIn_app (goodIn_r _ [19, 20, 21, 22] (by decide +kernel) (by decide +kernel)) ggX11_read_X11_cut
theorem ggX11_read_X11_plain : GoodIn wsX11_read wsX11_plain := gi_sub (fun w h => List.mem_cons_of_mem _ (List.mem_append_left _ (List.mem_append_right _ (List.mem_append_right _ (List.mem_append_left _ h))))) gd_wsX11_plain
set_option maxRecDepth 20000 in
theorem gX11_read_X11_plain : GoodIn wsX11_read (wsV RX11 134 RX11 yX11_plain wsX11_plain) := goodIn_app (goodIn_r _ [23, 24, 25, 22] (by decide +kernel) (by decide +kernel)) ggX11_read_X11_plain
theorem ggX11_read_X11_is : GoodIn wsX11_read wsX11_is := gi_sub (fun w h => List.mem_cons_of_mem _ (List.mem_append_left _ (List.mem_append_right _ (List.mem_append_right _ (List.mem_append_right _ (List.mem_append_left _ h)))))) gd_wsX11_is
set_option maxRecDepth 20000 in
theorem gX11_read_X11_is : GoodIn wsX11_read (wsV RX11 203 RX11 yX11_is wsX11_is) := goodIn_app (goodIn_r _ [26, 27, 28, 22] (by decide +kernel) (by decide +kernel)) ggX11_read_X11_is
theorem ggX11_read_X11_tellOne : GoodIn wsX11_read wsX11_tellOne := gi_sub (fun w h => List.mem_cons_of_mem _ (List.mem_append_left _ (List.mem_append_right _ (List.mem_append_right _ (List.mem_append_right _ (List.mem_append_right _ (List.mem_append_left _ h))))))) gd_wsX11_tellOne
set_option maxRecDepth 20000 in
theorem gX11_read_X11_tellOne : GoodIn wsX11_read (wsV RX11 227 RX11 yX11_tellOne wsX11_tellOne) := goodIn_app (goodIn_r _ [29, 30, 31, 22] (by decide +kernel) (by decide +kernel)) ggX11_read_X11_tellOne
theorem ggX11_read_X11_begins : GoodIn wsX11_read wsX11_begins := gi_sub (fun w h => List.mem_cons_of_mem _ (List.mem_append_left _ (List.mem_append_right _ (List.mem_append_right _ (List.mem_append_right _ (List.mem_append_right _ (List.mem_append_right _ (List.mem_append_left _ h)))))))) gd_wsX11_begins
set_option maxRecDepth 20000 in
theorem gX11_read_X11_begins : GoodIn wsX11_read (wsV RX11 142 RX11 yX11_begins wsX11_begins) := goodIn_app (goodIn_r _ [32, 33, 34, 22] (by decide +kernel) (by decide +kernel)) ggX11_read_X11_begins
theorem ggX11_read_X11_keepsRow : GoodIn wsX11_read wsX11_keepsRow := gi_sub (fun w h => List.mem_cons_of_mem _ (List.mem_append_left _ (List.mem_append_right _ (List.mem_append_right _ (List.mem_append_right _ (List.mem_append_right _ (List.mem_append_right _ (List.mem_append_right _ h)))))))) gd_wsX11_keepsRow
set_option maxRecDepth 20000 in
theorem gX11_read_X11_keepsRow : GoodIn wsX11_read (wsV RX11 145 RX11 yX11_keepsRow wsX11_keepsRow) := goodIn_app (goodIn_r _ [35, 36, 37, 22] (by decide +kernel) (by decide +kernel)) ggX11_read_X11_keepsRow
theorem dX11_read_0 : decode cX11_read 0 = .ok (.aload_n 0, 1) := dc1_42 (by decide +kernel)
theorem dX11_read_1 : decode cX11_read 1 = .ok (.aload_n 0, 1) := dc1_42 (by decide +kernel)
theorem dX11_read_2 : decode cX11_read 2 = .ok (.getfield 148, 3) := dcw_180 (by decide +kernel)
theorem dX11_read_5 : decode cX11_read 5 = .ok (.putfield 154, 3) := dcw_181 (by decide +kernel)
theorem dX11_read_8 : decode cX11_read 8 = .ok (.iconst 0, 1) := dc1_3 (by decide +kernel)
theorem dX11_read_9 : decode cX11_read 9 = .ok (.istore_n 1, 1) := dc1_60 (by decide +kernel)
theorem dX11_read_10 : decode cX11_read 10 = .ok (.iload_n 1, 1) := dc1_27 (by decide +kernel)
theorem dX11_read_11 : decode cX11_read 11 = .ok (.aload_n 0, 1) := dc1_42 (by decide +kernel)
theorem dX11_read_12 : decode cX11_read 12 = .ok (.getfield 154, 3) := dcw_180 (by decide +kernel)
theorem dX11_read_15 : decode cX11_read 15 = .ok (.if_icmp .ge 21, 3) := dcs_162 (n := 21) (by decide +kernel)
theorem dX11_read_18 : decode cX11_read 18 = .ok (.aload_n 0, 1) := dc1_42 (by decide +kernel)
theorem dX11_read_19 : decode cX11_read 19 = .ok (.getfield 17, 3) := dcw_180 (by decide +kernel)
theorem dX11_read_22 : decode cX11_read 22 = .ok (.iload_n 1, 1) := dc1_27 (by decide +kernel)
theorem dX11_read_23 : decode cX11_read 23 = .ok (.aload_n 0, 1) := dc1_42 (by decide +kernel)
theorem dX11_read_24 : decode cX11_read 24 = .ok (.getfield 13, 3) := dcw_180 (by decide +kernel)
theorem dX11_read_27 : decode cX11_read 27 = .ok (.iload_n 1, 1) := dc1_27 (by decide +kernel)
theorem dX11_read_28 : decode cX11_read 28 = .ok (.baload, 1) := dc1_51 (by decide +kernel)
theorem dX11_read_29 : decode cX11_read 29 = .ok (.bastore, 1) := dc1_84 (by decide +kernel)
theorem dX11_read_30 : decode cX11_read 30 = .ok (.iinc 1 1, 3) := dc_iinc (m := 1) (by decide +kernel)
theorem dX11_read_33 : decode cX11_read 33 = .ok (.goto (-23), 3) := dcs_167 (n := 65513) (by decide +kernel)
theorem dX11_read_36 : decode cX11_read 36 = .ok (.aload_n 0, 1) := dc1_42 (by decide +kernel)
theorem dX11_read_37 : decode cX11_read 37 = .ok (.iconst 0, 1) := dc1_3 (by decide +kernel)
theorem dX11_read_38 : decode cX11_read 38 = .ok (.putfield 148, 3) := dcw_181 (by decide +kernel)
theorem dX11_read_41 : decode cX11_read 41 = .ok (.aload_n 0, 1) := dc1_42 (by decide +kernel)
theorem dX11_read_42 : decode cX11_read 42 = .ok (.invokevirtual 209, 3) := dcw_182 (by decide +kernel)
theorem dX11_read_45 : decode cX11_read 45 = .ok (.aload_n 0, 1) := dc1_42 (by decide +kernel)
theorem dX11_read_46 : decode cX11_read 46 = .ok (.iconst 0, 1) := dc1_3 (by decide +kernel)
theorem dX11_read_47 : decode cX11_read 47 = .ok (.putfield 188, 3) := dcw_181 (by decide +kernel)
theorem dX11_read_50 : decode cX11_read 50 = .ok (.aload_n 0, 1) := dc1_42 (by decide +kernel)
theorem dX11_read_51 : decode cX11_read 51 = .ok (.iconst 0, 1) := dc1_3 (by decide +kernel)
theorem dX11_read_52 : decode cX11_read 52 = .ok (.putfield 212, 3) := dcw_181 (by decide +kernel)
theorem dX11_read_55 : decode cX11_read 55 = .ok (.aload_n 0, 1) := dc1_42 (by decide +kernel)
theorem dX11_read_56 : decode cX11_read 56 = .ok (.iconst 0, 1) := dc1_3 (by decide +kernel)
theorem dX11_read_57 : decode cX11_read 57 = .ok (.putfield 185, 3) := dcw_181 (by decide +kernel)
theorem dX11_read_60 : decode cX11_read 60 = .ok (.aload_n 0, 1) := dc1_42 (by decide +kernel)
theorem dX11_read_61 : decode cX11_read 61 = .ok (.iconst 0, 1) := dc1_3 (by decide +kernel)
theorem dX11_read_62 : decode cX11_read 62 = .ok (.putfield 194, 3) := dcw_181 (by decide +kernel)
theorem dX11_read_65 : decode cX11_read 65 = .ok (.aload_n 0, 1) := dc1_42 (by decide +kernel)
theorem dX11_read_66 : decode cX11_read 66 = .ok (.iconst 1, 1) := dc1_4 (by decide +kernel)
theorem dX11_read_67 : decode cX11_read 67 = .ok (.aload_n 0, 1) := dc1_42 (by decide +kernel)
theorem dX11_read_68 : decode cX11_read 68 = .ok (.getfield 215, 3) := dcw_180 (by decide +kernel)
theorem dX11_read_71 : decode cX11_read 71 = .ok (.isub, 1) := dc1_100 (by decide +kernel)
theorem dX11_read_72 : decode cX11_read 72 = .ok (.putfield 218, 3) := dcw_181 (by decide +kernel)
theorem dX11_read_75 : decode cX11_read 75 = .ok (.aload_n 0, 1) := dc1_42 (by decide +kernel)
theorem dX11_read_76 : decode cX11_read 76 = .ok (.aload_n 0, 1) := dc1_42 (by decide +kernel)
theorem dX11_read_77 : decode cX11_read 77 = .ok (.getfield 218, 3) := dcw_180 (by decide +kernel)
theorem dX11_read_80 : decode cX11_read 80 = .ok (.invokevirtual 134, 3) := dcw_182 (by decide +kernel)
theorem dX11_read_83 : decode cX11_read 83 = .ok (.aload_n 0, 1) := dc1_42 (by decide +kernel)
theorem dX11_read_84 : decode cX11_read 84 = .ok (.sipush 130, 3) := dcs_17 (n := 130) (by decide +kernel)
theorem dX11_read_87 : decode cX11_read 87 = .ok (.aload_n 0, 1) := dc1_42 (by decide +kernel)
theorem dX11_read_88 : decode cX11_read 88 = .ok (.getfield 218, 3) := dcw_180 (by decide +kernel)
theorem dX11_read_91 : decode cX11_read 91 = .ok (.imul, 1) := dc1_104 (by decide +kernel)
theorem dX11_read_92 : decode cX11_read 92 = .ok (.putfield 221, 3) := dcw_181 (by decide +kernel)
theorem dX11_read_95 : decode cX11_read 95 = .ok (.aload_n 0, 1) := dc1_42 (by decide +kernel)
theorem dX11_read_96 : decode cX11_read 96 = .ok (.sipush 420, 3) := dcs_17 (n := 420) (by decide +kernel)
theorem dX11_read_99 : decode cX11_read 99 = .ok (.aload_n 0, 1) := dc1_42 (by decide +kernel)
theorem dX11_read_100 : decode cX11_read 100 = .ok (.getfield 218, 3) := dcw_180 (by decide +kernel)
theorem dX11_read_103 : decode cX11_read 103 = .ok (.imul, 1) := dc1_104 (by decide +kernel)
theorem dX11_read_104 : decode cX11_read 104 = .ok (.putfield 224, 3) := dcw_181 (by decide +kernel)
theorem dX11_read_107 : decode cX11_read 107 = .ok (.aload_n 0, 1) := dc1_42 (by decide +kernel)
theorem dX11_read_108 : decode cX11_read 108 = .ok (.getfield 185, 3) := dcw_180 (by decide +kernel)
theorem dX11_read_111 : decode cX11_read 111 = .ok (.ifCond .ne 18, 3) := dcs_154 (n := 18) (by decide +kernel)
theorem dX11_read_114 : decode cX11_read 114 = .ok (.aload_n 0, 1) := dc1_42 (by decide +kernel)
theorem dX11_read_115 : decode cX11_read 115 = .ok (.iconst 0, 1) := dc1_3 (by decide +kernel)
theorem dX11_read_116 : decode cX11_read 116 = .ok (.invokevirtual 203, 3) := dcw_182 (by decide +kernel)
theorem dX11_read_119 : decode cX11_read 119 = .ok (.ifCond .ne 10, 3) := dcs_154 (n := 10) (by decide +kernel)
theorem dX11_read_122 : decode cX11_read 122 = .ok (.aload_n 0, 1) := dc1_42 (by decide +kernel)
theorem dX11_read_123 : decode cX11_read 123 = .ok (.invokevirtual 227, 3) := dcw_182 (by decide +kernel)
theorem dX11_read_126 : decode cX11_read 126 = .ok (.goto (-19), 3) := dcs_167 (n := 65517) (by decide +kernel)
theorem dX11_read_129 : decode cX11_read 129 = .ok (.aload_n 0, 1) := dc1_42 (by decide +kernel)
theorem dX11_read_130 : decode cX11_read 130 = .ok (.aload_n 0, 1) := dc1_42 (by decide +kernel)
theorem dX11_read_131 : decode cX11_read 131 = .ok (.getfield 185, 3) := dcw_180 (by decide +kernel)
theorem dX11_read_134 : decode cX11_read 134 = .ok (.ifCond .le 10, 3) := dcs_158 (n := 10) (by decide +kernel)
theorem dX11_read_137 : decode cX11_read 137 = .ok (.aload_n 0, 1) := dc1_42 (by decide +kernel)
theorem dX11_read_138 : decode cX11_read 138 = .ok (.getfield 191, 3) := dcw_180 (by decide +kernel)
theorem dX11_read_141 : decode cX11_read 141 = .ok (.goto 18, 3) := dcs_167 (n := 18) (by decide +kernel)
theorem dX11_read_144 : decode cX11_read 144 = .ok (.aload_n 0, 1) := dc1_42 (by decide +kernel)
theorem dX11_read_145 : decode cX11_read 145 = .ok (.getfield 194, 3) := dcw_180 (by decide +kernel)
theorem dX11_read_148 : decode cX11_read 148 = .ok (.ifCond .le 10, 3) := dcs_158 (n := 10) (by decide +kernel)
theorem dX11_read_151 : decode cX11_read 151 = .ok (.aload_n 0, 1) := dc1_42 (by decide +kernel)
theorem dX11_read_152 : decode cX11_read 152 = .ok (.getfield 197, 3) := dcw_180 (by decide +kernel)
theorem dX11_read_155 : decode cX11_read 155 = .ok (.goto 4, 3) := dcs_167 (n := 4) (by decide +kernel)
theorem dX11_read_158 : decode cX11_read 158 = .ok (.iconst (-1), 1) := dc1_2 (by decide +kernel)
theorem dX11_read_159 : decode cX11_read 159 = .ok (.putfield 37, 3) := dcw_181 (by decide +kernel)
theorem dX11_read_162 : decode cX11_read 162 = .ok (.aload_n 0, 1) := dc1_42 (by decide +kernel)
theorem dX11_read_163 : decode cX11_read 163 = .ok (.getfield 185, 3) := dcw_180 (by decide +kernel)
theorem dX11_read_166 : decode cX11_read 166 = .ok (.ifCond .le 8, 3) := dcs_158 (n := 8) (by decide +kernel)
theorem dX11_read_169 : decode cX11_read 169 = .ok (.aload_n 0, 1) := dc1_42 (by decide +kernel)
theorem dX11_read_170 : decode cX11_read 170 = .ok (.getfield 185, 3) := dcw_180 (by decide +kernel)
theorem dX11_read_173 : decode cX11_read 173 = .ok (.ireturn, 1) := dc1_172 (by decide +kernel)
theorem dX11_read_174 : decode cX11_read 174 = .ok (.aload_n 0, 1) := dc1_42 (by decide +kernel)
theorem dX11_read_175 : decode cX11_read 175 = .ok (.getfield 194, 3) := dcw_180 (by decide +kernel)
theorem dX11_read_178 : decode cX11_read 178 = .ok (.ifCond .le 8, 3) := dcs_158 (n := 8) (by decide +kernel)
theorem dX11_read_181 : decode cX11_read 181 = .ok (.aload_n 0, 1) := dc1_42 (by decide +kernel)
theorem dX11_read_182 : decode cX11_read 182 = .ok (.getfield 194, 3) := dcw_180 (by decide +kernel)
theorem dX11_read_185 : decode cX11_read 185 = .ok (.ireturn, 1) := dc1_172 (by decide +kernel)
theorem dX11_read_186 : decode cX11_read 186 = .ok (.aload_n 0, 1) := dc1_42 (by decide +kernel)
theorem dX11_read_187 : decode cX11_read 187 = .ok (.aload_n 0, 1) := dc1_42 (by decide +kernel)
theorem dX11_read_188 : decode cX11_read 188 = .ok (.getfield 218, 3) := dcw_180 (by decide +kernel)
theorem dX11_read_191 : decode cX11_read 191 = .ok (.putfield 215, 3) := dcw_181 (by decide +kernel)
theorem dX11_read_194 : decode cX11_read 194 = .ok (.aload_n 0, 1) := dc1_42 (by decide +kernel)
theorem dX11_read_195 : decode cX11_read 195 = .ok (.invokevirtual 142, 3) := dcw_182 (by decide +kernel)
theorem dX11_read_198 : decode cX11_read 198 = .ok (.aload_n 0, 1) := dc1_42 (by decide +kernel)
theorem dX11_read_199 : decode cX11_read 199 = .ok (.invokevirtual 145, 3) := dcw_182 (by decide +kernel)
theorem dX11_read_202 : decode cX11_read 202 = .ok (.aload_n 0, 1) := dc1_42 (by decide +kernel)
theorem dX11_read_203 : decode cX11_read 203 = .ok (.iconst 0, 1) := dc1_3 (by decide +kernel)
theorem dX11_read_204 : decode cX11_read 204 = .ok (.putfield 230, 3) := dcw_181 (by decide +kernel)
theorem dX11_read_207 : decode cX11_read 207 = .ok (.aload_n 0, 1) := dc1_42 (by decide +kernel)
theorem dX11_read_208 : decode cX11_read 208 = .ok (.iconst 0, 1) := dc1_3 (by decide +kernel)
theorem dX11_read_209 : decode cX11_read 209 = .ok (.putfield 233, 3) := dcw_181 (by decide +kernel)
theorem dX11_read_212 : decode cX11_read 212 = .ok (.iconst 0, 1) := dc1_3 (by decide +kernel)
theorem dX11_read_213 : decode cX11_read 213 = .ok (.istore_n 1, 1) := dc1_60 (by decide +kernel)
theorem dX11_read_214 : decode cX11_read 214 = .ok (.iload_n 1, 1) := dc1_27 (by decide +kernel)
theorem dX11_read_215 : decode cX11_read 215 = .ok (.iconst 3, 1) := dc1_6 (by decide +kernel)
theorem dX11_read_216 : decode cX11_read 216 = .ok (.if_icmp .ge 16, 3) := dcs_162 (n := 16) (by decide +kernel)
theorem dX11_read_219 : decode cX11_read 219 = .ok (.aload_n 0, 1) := dc1_42 (by decide +kernel)
theorem dX11_read_220 : decode cX11_read 220 = .ok (.getfield 128, 3) := dcw_180 (by decide +kernel)
theorem dX11_read_223 : decode cX11_read 223 = .ok (.iload_n 1, 1) := dc1_27 (by decide +kernel)
theorem dX11_read_224 : decode cX11_read 224 = .ok (.iconst 0, 1) := dc1_3 (by decide +kernel)
theorem dX11_read_225 : decode cX11_read 225 = .ok (.bastore, 1) := dc1_84 (by decide +kernel)
theorem dX11_read_226 : decode cX11_read 226 = .ok (.iinc 1 1, 3) := dc_iinc (m := 1) (by decide +kernel)
theorem dX11_read_229 : decode cX11_read 229 = .ok (.goto (-15), 3) := dcs_167 (n := 65521) (by decide +kernel)
theorem dX11_read_232 : decode cX11_read 232 = .ok (.iconst 0, 1) := dc1_3 (by decide +kernel)
theorem dX11_read_233 : decode cX11_read 233 = .ok (.ireturn, 1) := dc1_172 (by decide +kernel)
theorem dX11_place_0 : decode cX11_place 0 = .ok (.aload_n 0, 1) := dc1_42 (by decide +kernel)
theorem dX11_place_1 : decode cX11_place 1 = .ok (.getfield 37, 3) := dcw_180 (by decide +kernel)
theorem dX11_place_4 : decode cX11_place 4 = .ok (.ireturn, 1) := dc1_172 (by decide +kernel)
theorem dX11_termOf_0 : decode cX11_termOf 0 = .ok (.iconst 0, 1) := dc1_3 (by decide +kernel)
theorem dX11_termOf_1 : decode cX11_termOf 1 = .ok (.istore_n 3, 1) := dc1_62 (by decide +kernel)
theorem dX11_termOf_2 : decode cX11_termOf 2 = .ok (.iload_n 1, 1) := dc1_27 (by decide +kernel)
theorem dX11_termOf_3 : decode cX11_termOf 3 = .ok (.istore 4, 2) := dcu_54 (by decide +kernel)
theorem dX11_termOf_5 : decode cX11_termOf 5 = .ok (.iload 4, 2) := dcu_21 (by decide +kernel)
theorem dX11_termOf_7 : decode cX11_termOf 7 = .ok (.iload_n 2, 1) := dc1_28 (by decide +kernel)
theorem dX11_termOf_8 : decode cX11_termOf 8 = .ok (.if_icmp .ge 157, 3) := dcs_162 (n := 157) (by decide +kernel)
theorem dX11_termOf_11 : decode cX11_termOf 11 = .ok (.aload_n 0, 1) := dc1_42 (by decide +kernel)
theorem dX11_termOf_12 : decode cX11_termOf 12 = .ok (.getfield 83, 3) := dcw_180 (by decide +kernel)
theorem dX11_termOf_15 : decode cX11_termOf 15 = .ok (.iload 4, 2) := dcu_21 (by decide +kernel)
theorem dX11_termOf_17 : decode cX11_termOf 17 = .ok (.iaload, 1) := dc1_46 (by decide +kernel)
theorem dX11_termOf_18 : decode cX11_termOf 18 = .ok (.istore 5, 2) := dcu_54 (by decide +kernel)
theorem dX11_termOf_20 : decode cX11_termOf 20 = .ok (.iload 5, 2) := dcu_21 (by decide +kernel)
theorem dX11_termOf_22 : decode cX11_termOf 22 = .ok (.iconst 2, 1) := dc1_5 (by decide +kernel)
theorem dX11_termOf_23 : decode cX11_termOf 23 = .ok (.if_icmp .ge 42, 3) := dcs_162 (n := 42) (by decide +kernel)
theorem dX11_termOf_26 : decode cX11_termOf 26 = .ok (.aload_n 0, 1) := dc1_42 (by decide +kernel)
theorem dX11_termOf_27 : decode cX11_termOf 27 = .ok (.getfield 95, 3) := dcw_180 (by decide +kernel)
theorem dX11_termOf_30 : decode cX11_termOf 30 = .ok (.iload_n 3, 1) := dc1_29 (by decide +kernel)
theorem dX11_termOf_31 : decode cX11_termOf 31 = .ok (.iload 5, 2) := dcu_21 (by decide +kernel)
theorem dX11_termOf_33 : decode cX11_termOf 33 = .ok (.ifCond .ne 13, 3) := dcs_154 (n := 13) (by decide +kernel)
theorem dX11_termOf_36 : decode cX11_termOf 36 = .ok (.aload_n 0, 1) := dc1_42 (by decide +kernel)
theorem dX11_termOf_37 : decode cX11_termOf 37 = .ok (.getfield 86, 3) := dcw_180 (by decide +kernel)
theorem dX11_termOf_40 : decode cX11_termOf 40 = .ok (.iload 4, 2) := dcu_21 (by decide +kernel)
theorem dX11_termOf_42 : decode cX11_termOf 42 = .ok (.iaload, 1) := dc1_46 (by decide +kernel)
theorem dX11_termOf_43 : decode cX11_termOf 43 = .ok (.goto 15, 3) := dcs_167 (n := 15) (by decide +kernel)
theorem dX11_termOf_46 : decode cX11_termOf 46 = .ok (.aload_n 0, 1) := dc1_42 (by decide +kernel)
theorem dX11_termOf_47 : decode cX11_termOf 47 = .ok (.getfield 92, 3) := dcw_180 (by decide +kernel)
theorem dX11_termOf_50 : decode cX11_termOf 50 = .ok (.aload_n 0, 1) := dc1_42 (by decide +kernel)
theorem dX11_termOf_51 : decode cX11_termOf 51 = .ok (.getfield 86, 3) := dcw_180 (by decide +kernel)
theorem dX11_termOf_54 : decode cX11_termOf 54 = .ok (.iload 4, 2) := dcu_21 (by decide +kernel)
theorem dX11_termOf_56 : decode cX11_termOf 56 = .ok (.iaload, 1) := dc1_46 (by decide +kernel)
theorem dX11_termOf_57 : decode cX11_termOf 57 = .ok (.iaload, 1) := dc1_46 (by decide +kernel)
theorem dX11_termOf_58 : decode cX11_termOf 58 = .ok (.iastore, 1) := dc1_79 (by decide +kernel)
theorem dX11_termOf_59 : decode cX11_termOf 59 = .ok (.iinc 3 1, 3) := dc_iinc (m := 1) (by decide +kernel)
theorem dX11_termOf_62 : decode cX11_termOf 62 = .ok (.goto 97, 3) := dcs_167 (n := 97) (by decide +kernel)
theorem dX11_termOf_65 : decode cX11_termOf 65 = .ok (.iinc 3 (-1), 3) := dc_iinc (m := 255) (by decide +kernel)
theorem dX11_termOf_68 : decode cX11_termOf 68 = .ok (.aload_n 0, 1) := dc1_42 (by decide +kernel)
theorem dX11_termOf_69 : decode cX11_termOf 69 = .ok (.getfield 95, 3) := dcw_180 (by decide +kernel)
theorem dX11_termOf_72 : decode cX11_termOf 72 = .ok (.iload_n 3, 1) := dc1_29 (by decide +kernel)
theorem dX11_termOf_73 : decode cX11_termOf 73 = .ok (.iconst 1, 1) := dc1_4 (by decide +kernel)
theorem dX11_termOf_74 : decode cX11_termOf 74 = .ok (.isub, 1) := dc1_100 (by decide +kernel)
theorem dX11_termOf_75 : decode cX11_termOf 75 = .ok (.iaload, 1) := dc1_46 (by decide +kernel)
theorem dX11_termOf_76 : decode cX11_termOf 76 = .ok (.istore 6, 2) := dcu_54 (by decide +kernel)
theorem dX11_termOf_78 : decode cX11_termOf 78 = .ok (.aload_n 0, 1) := dc1_42 (by decide +kernel)
theorem dX11_termOf_79 : decode cX11_termOf 79 = .ok (.getfield 95, 3) := dcw_180 (by decide +kernel)
theorem dX11_termOf_82 : decode cX11_termOf 82 = .ok (.iload_n 3, 1) := dc1_29 (by decide +kernel)
theorem dX11_termOf_83 : decode cX11_termOf 83 = .ok (.iaload, 1) := dc1_46 (by decide +kernel)
theorem dX11_termOf_84 : decode cX11_termOf 84 = .ok (.istore 7, 2) := dcu_54 (by decide +kernel)
theorem dX11_termOf_86 : decode cX11_termOf 86 = .ok (.iload 5, 2) := dcu_21 (by decide +kernel)
theorem dX11_termOf_88 : decode cX11_termOf 88 = .ok (.iconst 5, 1) := dc1_8 (by decide +kernel)
theorem dX11_termOf_89 : decode cX11_termOf 89 = .ok (.if_icmp .ne 15, 3) := dcs_160 (n := 15) (by decide +kernel)
theorem dX11_termOf_92 : decode cX11_termOf 92 = .ok (.iload 7, 2) := dcu_21 (by decide +kernel)
theorem dX11_termOf_94 : decode cX11_termOf 94 = .ok (.ifCond .ne 10, 3) := dcs_154 (n := 10) (by decide +kernel)
theorem dX11_termOf_97 : decode cX11_termOf 97 = .ok (.aload_n 0, 1) := dc1_42 (by decide +kernel)
theorem dX11_termOf_98 : decode cX11_termOf 98 = .ok (.iconst 1, 1) := dc1_4 (by decide +kernel)
theorem dX11_termOf_99 : decode cX11_termOf 99 = .ok (.putfield 277, 3) := dcw_181 (by decide +kernel)
theorem dX11_termOf_102 : decode cX11_termOf 102 = .ok (.iconst 0, 1) := dc1_3 (by decide +kernel)
theorem dX11_termOf_103 : decode cX11_termOf 103 = .ok (.ireturn, 1) := dc1_172 (by decide +kernel)
theorem dX11_termOf_104 : decode cX11_termOf 104 = .ok (.aload_n 0, 1) := dc1_42 (by decide +kernel)
theorem dX11_termOf_105 : decode cX11_termOf 105 = .ok (.getfield 95, 3) := dcw_180 (by decide +kernel)
theorem dX11_termOf_108 : decode cX11_termOf 108 = .ok (.iload_n 3, 1) := dc1_29 (by decide +kernel)
theorem dX11_termOf_109 : decode cX11_termOf 109 = .ok (.iconst 1, 1) := dc1_4 (by decide +kernel)
theorem dX11_termOf_110 : decode cX11_termOf 110 = .ok (.isub, 1) := dc1_100 (by decide +kernel)
theorem dX11_termOf_111 : decode cX11_termOf 111 = .ok (.iload 5, 2) := dcu_21 (by decide +kernel)
theorem dX11_termOf_113 : decode cX11_termOf 113 = .ok (.iconst 2, 1) := dc1_5 (by decide +kernel)
theorem dX11_termOf_114 : decode cX11_termOf 114 = .ok (.if_icmp .ne 11, 3) := dcs_160 (n := 11) (by decide +kernel)
theorem dX11_termOf_117 : decode cX11_termOf 117 = .ok (.iload 6, 2) := dcu_21 (by decide +kernel)
theorem dX11_termOf_119 : decode cX11_termOf 119 = .ok (.iload 7, 2) := dcu_21 (by decide +kernel)
theorem dX11_termOf_121 : decode cX11_termOf 121 = .ok (.iadd, 1) := dc1_96 (by decide +kernel)
theorem dX11_termOf_122 : decode cX11_termOf 122 = .ok (.goto 36, 3) := dcs_167 (n := 36) (by decide +kernel)
theorem dX11_termOf_125 : decode cX11_termOf 125 = .ok (.iload 5, 2) := dcu_21 (by decide +kernel)
theorem dX11_termOf_127 : decode cX11_termOf 127 = .ok (.iconst 3, 1) := dc1_6 (by decide +kernel)
theorem dX11_termOf_128 : decode cX11_termOf 128 = .ok (.if_icmp .ne 11, 3) := dcs_160 (n := 11) (by decide +kernel)
theorem dX11_termOf_131 : decode cX11_termOf 131 = .ok (.iload 6, 2) := dcu_21 (by decide +kernel)
theorem dX11_termOf_133 : decode cX11_termOf 133 = .ok (.iload 7, 2) := dcu_21 (by decide +kernel)
theorem dX11_termOf_135 : decode cX11_termOf 135 = .ok (.isub, 1) := dc1_100 (by decide +kernel)
theorem dX11_termOf_136 : decode cX11_termOf 136 = .ok (.goto 22, 3) := dcs_167 (n := 22) (by decide +kernel)
theorem dX11_termOf_139 : decode cX11_termOf 139 = .ok (.iload 5, 2) := dcu_21 (by decide +kernel)
theorem dX11_termOf_141 : decode cX11_termOf 141 = .ok (.iconst 4, 1) := dc1_7 (by decide +kernel)
theorem dX11_termOf_142 : decode cX11_termOf 142 = .ok (.if_icmp .ne 11, 3) := dcs_160 (n := 11) (by decide +kernel)
theorem dX11_termOf_145 : decode cX11_termOf 145 = .ok (.iload 6, 2) := dcu_21 (by decide +kernel)
theorem dX11_termOf_147 : decode cX11_termOf 147 = .ok (.iload 7, 2) := dcu_21 (by decide +kernel)
theorem dX11_termOf_149 : decode cX11_termOf 149 = .ok (.imul, 1) := dc1_104 (by decide +kernel)
theorem dX11_termOf_150 : decode cX11_termOf 150 = .ok (.goto 8, 3) := dcs_167 (n := 8) (by decide +kernel)
theorem dX11_termOf_153 : decode cX11_termOf 153 = .ok (.iload 6, 2) := dcu_21 (by decide +kernel)
theorem dX11_termOf_155 : decode cX11_termOf 155 = .ok (.iload 7, 2) := dcu_21 (by decide +kernel)
theorem dX11_termOf_157 : decode cX11_termOf 157 = .ok (.idiv, 1) := dc1_108 (by decide +kernel)
theorem dX11_termOf_158 : decode cX11_termOf 158 = .ok (.iastore, 1) := dc1_79 (by decide +kernel)
theorem dX11_termOf_159 : decode cX11_termOf 159 = .ok (.iinc 4 1, 3) := dc_iinc (m := 1) (by decide +kernel)
theorem dX11_termOf_162 : decode cX11_termOf 162 = .ok (.goto (-157), 3) := dcs_167 (n := 65379) (by decide +kernel)
theorem dX11_termOf_165 : decode cX11_termOf 165 = .ok (.aload_n 0, 1) := dc1_42 (by decide +kernel)
theorem dX11_termOf_166 : decode cX11_termOf 166 = .ok (.getfield 95, 3) := dcw_180 (by decide +kernel)
theorem dX11_termOf_169 : decode cX11_termOf 169 = .ok (.iconst 0, 1) := dc1_3 (by decide +kernel)
theorem dX11_termOf_170 : decode cX11_termOf 170 = .ok (.iaload, 1) := dc1_46 (by decide +kernel)
theorem dX11_termOf_171 : decode cX11_termOf 171 = .ok (.ireturn, 1) := dc1_172 (by decide +kernel)
theorem dX11_in_0 : decode cX11_in 0 = .ok (.iload_n 0, 1) := dc1_26 (by decide +kernel)
theorem dX11_in_1 : decode cX11_in 1 = .ok (.iload_n 1, 1) := dc1_27 (by decide +kernel)
theorem dX11_in_2 : decode cX11_in 2 = .ok (.if_icmp .lt 12, 3) := dcs_161 (n := 12) (by decide +kernel)
theorem dX11_in_5 : decode cX11_in 5 = .ok (.iload_n 0, 1) := dc1_26 (by decide +kernel)
theorem dX11_in_6 : decode cX11_in 6 = .ok (.iload_n 2, 1) := dc1_28 (by decide +kernel)
theorem dX11_in_7 : decode cX11_in 7 = .ok (.if_icmp .gt 7, 3) := dcs_163 (n := 7) (by decide +kernel)
theorem dX11_in_10 : decode cX11_in 10 = .ok (.iconst 1, 1) := dc1_4 (by decide +kernel)
theorem dX11_in_11 : decode cX11_in 11 = .ok (.goto 4, 3) := dcs_167 (n := 4) (by decide +kernel)
theorem dX11_in_14 : decode cX11_in 14 = .ok (.iconst 0, 1) := dc1_3 (by decide +kernel)
theorem dX11_in_15 : decode cX11_in 15 = .ok (.ireturn, 1) := dc1_172 (by decide +kernel)
theorem dX11_within_0 : decode cX11_within 0 = .ok (.iload_n 0, 1) := dc1_26 (by decide +kernel)
theorem dX11_within_1 : decode cX11_within 1 = .ok (.iload_n 1, 1) := dc1_27 (by decide +kernel)
theorem dX11_within_2 : decode cX11_within 2 = .ok (.if_icmp .ge 7, 3) := dcs_162 (n := 7) (by decide +kernel)
theorem dX11_within_5 : decode cX11_within 5 = .ok (.iload_n 1, 1) := dc1_27 (by decide +kernel)
theorem dX11_within_6 : decode cX11_within 6 = .ok (.goto 13, 3) := dcs_167 (n := 13) (by decide +kernel)
theorem dX11_within_9 : decode cX11_within 9 = .ok (.iload_n 0, 1) := dc1_26 (by decide +kernel)
theorem dX11_within_10 : decode cX11_within 10 = .ok (.iload_n 2, 1) := dc1_28 (by decide +kernel)
theorem dX11_within_11 : decode cX11_within 11 = .ok (.if_icmp .le 7, 3) := dcs_164 (n := 7) (by decide +kernel)
theorem dX11_within_14 : decode cX11_within 14 = .ok (.iload_n 2, 1) := dc1_28 (by decide +kernel)
theorem dX11_within_15 : decode cX11_within 15 = .ok (.goto 4, 3) := dcs_167 (n := 4) (by decide +kernel)
theorem dX11_within_18 : decode cX11_within 18 = .ok (.iload_n 0, 1) := dc1_26 (by decide +kernel)
theorem dX11_within_19 : decode cX11_within 19 = .ok (.ireturn, 1) := dc1_172 (by decide +kernel)
theorem dX11_bits_0 : decode cX11_bits 0 = .ok (.iconst 0, 1) := dc1_3 (by decide +kernel)
theorem dX11_bits_1 : decode cX11_bits 1 = .ok (.istore_n 1, 1) := dc1_60 (by decide +kernel)
theorem dX11_bits_2 : decode cX11_bits 2 = .ok (.iconst 0, 1) := dc1_3 (by decide +kernel)
theorem dX11_bits_3 : decode cX11_bits 3 = .ok (.istore_n 2, 1) := dc1_61 (by decide +kernel)
theorem dX11_bits_4 : decode cX11_bits 4 = .ok (.iload_n 2, 1) := dc1_28 (by decide +kernel)
theorem dX11_bits_5 : decode cX11_bits 5 = .ok (.bipush 6, 2) := dcb_16 (n := 6) (by decide +kernel)
theorem dX11_bits_7 : decode cX11_bits 7 = .ok (.if_icmp .ge 17, 3) := dcs_162 (n := 17) (by decide +kernel)
theorem dX11_bits_10 : decode cX11_bits 10 = .ok (.iload_n 1, 1) := dc1_27 (by decide +kernel)
theorem dX11_bits_11 : decode cX11_bits 11 = .ok (.iload_n 0, 1) := dc1_26 (by decide +kernel)
theorem dX11_bits_12 : decode cX11_bits 12 = .ok (.iload_n 2, 1) := dc1_28 (by decide +kernel)
theorem dX11_bits_13 : decode cX11_bits 13 = .ok (.ishr, 1) := dc1_122 (by decide +kernel)
theorem dX11_bits_14 : decode cX11_bits 14 = .ok (.iconst 1, 1) := dc1_4 (by decide +kernel)
theorem dX11_bits_15 : decode cX11_bits 15 = .ok (.iand, 1) := dc1_126 (by decide +kernel)
theorem dX11_bits_16 : decode cX11_bits 16 = .ok (.iadd, 1) := dc1_96 (by decide +kernel)
theorem dX11_bits_17 : decode cX11_bits 17 = .ok (.istore_n 1, 1) := dc1_60 (by decide +kernel)
theorem dX11_bits_18 : decode cX11_bits 18 = .ok (.iinc 2 1, 3) := dc_iinc (m := 1) (by decide +kernel)
theorem dX11_bits_21 : decode cX11_bits 21 = .ok (.goto (-17), 3) := dcs_167 (n := 65519) (by decide +kernel)
theorem dX11_bits_24 : decode cX11_bits 24 = .ok (.iload_n 1, 1) := dc1_27 (by decide +kernel)
theorem dX11_bits_25 : decode cX11_bits 25 = .ok (.ireturn, 1) := dc1_172 (by decide +kernel)
theorem dX11_keepsRow_0 : decode cX11_keepsRow 0 = .ok (.iconst 0, 1) := dc1_3 (by decide +kernel)
theorem dX11_keepsRow_1 : decode cX11_keepsRow 1 = .ok (.istore_n 1, 1) := dc1_60 (by decide +kernel)
theorem dX11_keepsRow_2 : decode cX11_keepsRow 2 = .ok (.iload_n 1, 1) := dc1_27 (by decide +kernel)
theorem dX11_keepsRow_3 : decode cX11_keepsRow 3 = .ok (.bipush 29, 2) := dcb_16 (n := 29) (by decide +kernel)
theorem dX11_keepsRow_5 : decode cX11_keepsRow 5 = .ok (.if_icmp .ge 21, 3) := dcs_162 (n := 21) (by decide +kernel)
theorem dX11_keepsRow_8 : decode cX11_keepsRow 8 = .ok (.aload_n 0, 1) := dc1_42 (by decide +kernel)
theorem dX11_keepsRow_9 : decode cX11_keepsRow 9 = .ok (.getfield 98, 3) := dcw_180 (by decide +kernel)
theorem dX11_keepsRow_12 : decode cX11_keepsRow 12 = .ok (.iload_n 1, 1) := dc1_27 (by decide +kernel)
theorem dX11_keepsRow_13 : decode cX11_keepsRow 13 = .ok (.aload_n 0, 1) := dc1_42 (by decide +kernel)
theorem dX11_keepsRow_14 : decode cX11_keepsRow 14 = .ok (.getfield 101, 3) := dcw_180 (by decide +kernel)
theorem dX11_keepsRow_17 : decode cX11_keepsRow 17 = .ok (.iload_n 1, 1) := dc1_27 (by decide +kernel)
theorem dX11_keepsRow_18 : decode cX11_keepsRow 18 = .ok (.iaload, 1) := dc1_46 (by decide +kernel)
theorem dX11_keepsRow_19 : decode cX11_keepsRow 19 = .ok (.iastore, 1) := dc1_79 (by decide +kernel)
theorem dX11_keepsRow_20 : decode cX11_keepsRow 20 = .ok (.iinc 1 1, 3) := dc_iinc (m := 1) (by decide +kernel)
theorem dX11_keepsRow_23 : decode cX11_keepsRow 23 = .ok (.goto (-21), 3) := dcs_167 (n := 65515) (by decide +kernel)
theorem dX11_keepsRow_26 : decode cX11_keepsRow 26 = .ok (.return_, 1) := dc1_177 (by decide +kernel)
theorem LX11_keepsRow_101 : Cond.fieldLink RX11 101 "GuessFerryModel" "row" "[I" ∈ wsX11_keepsRow := by decide +kernel
theorem LX11_keepsRow_98 : Cond.fieldLink RX11 98 "GuessFerryModel" "now" "[I" ∈ wsX11_keepsRow := by decide +kernel
theorem inX11_keepsRow_X11 : ∀ w ∈ u_ws RX11 TX11 58, w ∈ wsX11_keepsRow := fun _ h => List.mem_cons_of_mem _ (List.mem_append_right _ h)
set_option maxHeartbeats 4000000 in
set_option maxRecDepth 100000 in
theorem br_keepsRow_2 {l : Launch} {dC : Nat → ClassId} {dI : Nat → Nat → Nat} {cB cI cJ cZ cS : ClassId} {h : Nat} {a : Nat → Nat} {as : List Value} {s' : RS} {k2 : RS → Int32 → Option RS} (hk2 : ∀ (s : RS) (x1 : Int32), k2 s x1 = some s' → BlkV l yX11_keepsRow wsX11_keepsRow ({ frames := 0, cells := 0, slots := 0, locals := 0 }) cX11_keepsRow 2 none (dC, dI) (tysA cB cI cJ cZ cS) as 2 (mwS cB cI cJ cZ h a s) [(0, .ref h), (1, .int x1)] [] (fun u => u = (mwS cB cI cJ cZ h a s'))) (s : RS) (x1 : Int32) (hB : r_keepsRow_2 k2 s x1 = some s') : BlkV l yX11_keepsRow wsX11_keepsRow ({ frames := 0, cells := 0, slots := 0, locals := 0 }) cX11_keepsRow 2 none (dC, dI) (tysA cB cI cJ cZ cS) as 2 (mwS cB cI cJ cZ h a s) [(0, .ref h), (1, .int x1)] [] (fun u => u = (mwS cB cI cJ cZ h a s')) := by
  intro p e s0 m below meth c A E H locs ls hP hD hS hl
  obtain ⟨C, hr, hlocks, hA, hK, hN⟩ := id E
  obtain ⟨hx, hb, hml, hown, hts⟩ := id C
  unfold r_keepsRow_2 at hB
  refine lv_iload_n hx hb dX11_keepsRow_2 rfl (lv_at hl 1 rfl) ?_
  refine lv_bipush (v := 29) hx hb dX11_keepsRow_3 (by decide) ?_
  refine lv_icmp_ge (tgt := 26) hx hb dX11_keepsRow_5 (by decide) (fun c1 => ?_) (fun c1 => ?_)
  · have hB := if_p hB c1
    exact q_vret C hr hlocks hK hP hD hS (Nat.le_of_ble_eq_true rfl) (Nat.le_of_ble_eq_true rfl) dX11_keepsRow_26 (by cases hB; rfl)
  · have hB := if_n hB c1
    refine lv_aload_n hx hb dX11_keepsRow_8 rfl (lv_at hl 0 rfl) ?_
    refine q_get (v := .ref (a 43)) C inX11_keepsRow_X11 hK hP 0 rfl rfl 43 (by decide) rfl LX11_keepsRow_98 rfl dX11_keepsRow_9 ?_
    refine lv_iload_n hx hb dX11_keepsRow_12 rfl (lv_at hl 1 rfl) ?_
    refine lv_aload_n hx hb dX11_keepsRow_13 rfl (lv_at hl 0 rfl) ?_
    refine q_get (v := .ref (a 44)) C inX11_keepsRow_X11 hK hP 0 rfl rfl 44 (by decide) rfl LX11_keepsRow_101 rfl dX11_keepsRow_14 ?_
    refine lv_iload_n hx hb dX11_keepsRow_17 rfl (lv_at hl 1 rfl) ?_
    obtain ⟨g2, hB⟩ := guard_inv hB
    refine q_iald (x := (s.f 44 (Int32.toNatClampNeg x1))) C hK hP 28 1 rfl rfl (vpb_in g2) dX11_keepsRow_18 rfl ?_
    obtain ⟨g3, hB⟩ := guard_inv hB
    obtain ⟨s4, hs5, hB⟩ := letS_inv hB
    refine q_iast (f2 := (upd (s.f 43) (Int32.toNatClampNeg x1) (s.f 44 (Int32.toNatClampNeg x1)))) (w2 := (mwS cB cI cJ cZ h a s4)) C hK hP hD hS 27 1 rfl rfl (vpb_in g3) dX11_keepsRow_19 rfl (mwS_f43 hs5) (fun H locs hP hD hS => ?_)
    refine lv_iinc (v := (x1 + 1)) (lv' := [(1, .int (x1 + 1)), (0, .ref h)]) hx hb dX11_keepsRow_20 hl (k := 1) rfl (rfl) (by decide) rfl (fun ls hl => ?_)
    refine lv_goto (tgt := 2) hx hb dX11_keepsRow_23 (by decide) ?_
    exact hk2 _ _ hB p e s0 m below meth c A E H locs ls hP hD hS (lv_sub hl [1, 0] rfl)
theorem br_keepsRow_2L {l : Launch} {dC : Nat → ClassId} {dI : Nat → Nat → Nat} {cB cI cJ cZ cS : ClassId} {h : Nat} {a : Nat → Nat} {as : List Value} {s' : RS} : ∀ (n : Nat) (s : RS) (x1 : Int32), r_keepsRow_2L n s x1 = some s' → BlkV l yX11_keepsRow wsX11_keepsRow ({ frames := 0, cells := 0, slots := 0, locals := 0 }) cX11_keepsRow 2 none (dC, dI) (tysA cB cI cJ cZ cS) as 2 (mwS cB cI cJ cZ h a s) [(0, .ref h), (1, .int x1)] [] (fun u => u = (mwS cB cI cJ cZ h a s')) := by
  intro n
  induction n with
  | zero => intro s x1 hB; exact none_ne hB
  | succ n ih => intro s x1 hB; exact br_keepsRow_2 ih _ _ hB
set_option maxHeartbeats 4000000 in
set_option maxRecDepth 100000 in
theorem br_keepsRow {l : Launch} {dC : Nat → ClassId} {dI : Nat → Nat → Nat} {cB cI cJ cZ cS : ClassId} {h : Nat} {a : Nat → Nat} {as : List Value} {s' : RS} (s : RS) (hB : r_keepsRow s = some s') : BlkV l yX11_keepsRow wsX11_keepsRow ({ frames := 0, cells := 0, slots := 0, locals := 0 }) cX11_keepsRow 2 none (dC, dI) (tysA cB cI cJ cZ cS) as 0 (mwS cB cI cJ cZ h a s) [(0, .ref h)] [] (fun u => u = (mwS cB cI cJ cZ h a s')) := by
  intro p e s0 m below meth c A E H locs ls hP hD hS hl
  obtain ⟨C, hr, hlocks, hA, hK, hN⟩ := id E
  obtain ⟨hx, hb, hml, hown, hts⟩ := id C
  unfold r_keepsRow at hB
  refine lv_iconst (v := 0) hx hb dX11_keepsRow_0 (by decide) ?_
  refine lv_istore_n (lv' := [(1, .int 0), (0, .ref h)]) hx hb dX11_keepsRow_1 rfl hl (by decide) rfl (fun ls hl => ?_)
  exact br_keepsRow_2L fu _ _ hB p e s0 m below meth c A E H locs ls hP hD hS (lv_sub hl [1, 0] rfl)
theorem cr_keepsRow {l : Launch} {dC : Nat → ClassId} {dI : Nat → Nat → Nat} {cB cI cJ cZ cS : ClassId} {h : Nat} {a : Nat → Nat} {s' : RS} {s : RS} (hB : r_keepsRow s = some s') : CV l yX11_keepsRow wsX11_keepsRow ({ frames := 0, cells := 0, slots := 0, locals := 0 }) (dC, dI) (tysA cB cI cJ cZ cS) (mwS cB cI cJ cZ h a s) [.ref h] (fun u => u = (mwS cB cI cJ cZ h a s')) :=
  CV_of (cc := cX11_keepsRow) (maxL := 2) (ret := none) (by decide) rfl (Nat.le_of_ble_eq_true rfl) (br_keepsRow _ hB)
theorem LX11_read_128 : Cond.fieldLink RX11 128 "GuessFerryModel" "isHeld" "[Z" ∈ wsX11_read := by decide +kernel
theorem LX11_read_13 : Cond.fieldLink RX11 13 "GuessFerryModel" "tape" "[B" ∈ wsX11_read := by decide +kernel
theorem LX11_read_148 : Cond.fieldLink RX11 148 "GuessFerryModel" "taped" "I" ∈ wsX11_read := by decide +kernel
theorem LX11_read_154 : Cond.fieldLink RX11 154 "GuessFerryModel" "size" "I" ∈ wsX11_read := by decide +kernel
theorem LX11_read_17 : Cond.fieldLink RX11 17 "GuessFerryModel" "text" "[B" ∈ wsX11_read := by decide +kernel
theorem LX11_read_185 : Cond.fieldLink RX11 185 "GuessFerryModel" "fault" "I" ∈ wsX11_read := by decide +kernel
theorem LX11_read_188 : Cond.fieldLink RX11 188 "GuessFerryModel" "t" "I" ∈ wsX11_read := by decide +kernel
theorem LX11_read_191 : Cond.fieldLink RX11 191 "GuessFerryModel" "faultPlace" "I" ∈ wsX11_read := by decide +kernel
theorem LX11_read_194 : Cond.fieldLink RX11 194 "GuessFerryModel" "worst" "I" ∈ wsX11_read := by decide +kernel
theorem LX11_read_197 : Cond.fieldLink RX11 197 "GuessFerryModel" "worstPlace" "I" ∈ wsX11_read := by decide +kernel
theorem LX11_read_212 : Cond.fieldLink RX11 212 "GuessFerryModel" "open" "I" ∈ wsX11_read := by decide +kernel
theorem LX11_read_215 : Cond.fieldLink RX11 215 "GuessFerryModel" "live" "I" ∈ wsX11_read := by decide +kernel
theorem LX11_read_218 : Cond.fieldLink RX11 218 "GuessFerryModel" "side" "I" ∈ wsX11_read := by decide +kernel
theorem LX11_read_221 : Cond.fieldLink RX11 221 "GuessFerryModel" "branches" "I" ∈ wsX11_read := by decide +kernel
theorem LX11_read_224 : Cond.fieldLink RX11 224 "GuessFerryModel" "codes" "I" ∈ wsX11_read := by decide +kernel
theorem LX11_read_230 : Cond.fieldLink RX11 230 "GuessFerryModel" "undos" "I" ∈ wsX11_read := by decide +kernel
theorem LX11_read_233 : Cond.fieldLink RX11 233 "GuessFerryModel" "tolds" "I" ∈ wsX11_read := by decide +kernel
theorem LX11_read_37 : Cond.fieldLink RX11 37 "GuessFerryModel" "place" "I" ∈ wsX11_read := by decide +kernel
theorem inX11_read_X11 : ∀ w ∈ u_ws RX11 TX11 58, w ∈ wsX11_read := by decide +kernel
set_option maxHeartbeats 4000000 in
set_option maxRecDepth 100000 in
theorem br_read_214 {l : Launch} {dC : Nat → ClassId} {dI : Nat → Nat → Nat} {cB cI cJ cZ cS : ClassId} {h : Nat} {a : Nat → Nat} {as : List Value} {r : Int32} {s' : RS} {k214 : RS → Int32 → Option (Int32 × RS)} (hk214 : ∀ (s : RS) (x1 : Int32), k214 s x1 = some (r, s') → BlkI l yX11_read wsX11_read ({ frames := 7, cells := 0, slots := 0, locals := 147 }) cX11_read 2 (some .int) (dC, dI) (tysA cB cI cJ cZ cS) as 214 (mwS cB cI cJ cZ h a s) [(0, .ref h), (1, .int x1)] [] (fun x u => x = r ∧ u = (mwS cB cI cJ cZ h a s'))) (s : RS) (x1 : Int32) (hB : r_read_214 k214 s x1 = some (r, s')) : BlkI l yX11_read wsX11_read ({ frames := 7, cells := 0, slots := 0, locals := 147 }) cX11_read 2 (some .int) (dC, dI) (tysA cB cI cJ cZ cS) as 214 (mwS cB cI cJ cZ h a s) [(0, .ref h), (1, .int x1)] [] (fun x u => x = r ∧ u = (mwS cB cI cJ cZ h a s')) := by
  intro p e s0 m below meth c A E H locs ls hP hD hS hl
  obtain ⟨C, hr, hlocks, hA, hK, hN⟩ := id E
  obtain ⟨hx, hb, hml, hown, hts⟩ := id C
  unfold r_read_214 at hB
  refine lv_iload_n hx hb dX11_read_214 rfl (lv_at hl 1 rfl) ?_
  refine lv_iconst (v := 3) hx hb dX11_read_215 (by decide) ?_
  refine lv_icmp_ge (tgt := 232) hx hb dX11_read_216 (by decide) (fun c1 => ?_) (fun c1 => ?_)
  · have hB := if_p hB c1
    refine lv_iconst (v := 0) hx hb dX11_read_232 (by decide) ?_
    exact q_iret C hr hlocks hK hP hD hS (Nat.le_of_ble_eq_true rfl) (Nat.le_of_ble_eq_true rfl) dX11_read_233 (by cases hB; exact ⟨rfl, rfl⟩)
  · have hB := if_n hB c1
    refine lv_aload_n hx hb dX11_read_219 rfl (lv_at hl 0 rfl) ?_
    refine q_get (v := .ref (a 56)) C inX11_read_X11 hK hP 0 rfl rfl 56 (by decide) rfl LX11_read_128 rfl dX11_read_220 ?_
    refine lv_iload_n hx hb dX11_read_223 rfl (lv_at hl 1 rfl) ?_
    refine lv_iconst (v := 0) hx hb dX11_read_224 (by decide) ?_
    obtain ⟨g2, hB⟩ := guard_inv hB
    obtain ⟨s3, hs4, hB⟩ := letS_inv hB
    refine q_zast (f2 := (upd (s.f 56) (Int32.toNatClampNeg x1) (vp_nar .boolean 0))) (w2 := (mwS cB cI cJ cZ h a s3)) C hK hP hD hS 37 3 rfl rfl (vpb_in g2) dX11_read_225 rfl (mwS_f56 hs4) (fun H locs hP hD hS => ?_)
    refine lv_iinc (v := (x1 + 1)) (lv' := [(1, .int (x1 + 1)), (0, .ref h)]) hx hb dX11_read_226 hl (k := 1) rfl (rfl) (by decide) rfl (fun ls hl => ?_)
    refine lv_goto (tgt := 214) hx hb dX11_read_229 (by decide) ?_
    exact hk214 _ _ hB p e s0 m below meth c A E H locs ls hP hD hS (lv_sub hl [1, 0] rfl)
theorem br_read_214L {l : Launch} {dC : Nat → ClassId} {dI : Nat → Nat → Nat} {cB cI cJ cZ cS : ClassId} {h : Nat} {a : Nat → Nat} {as : List Value} {r : Int32} {s' : RS} : ∀ (n : Nat) (s : RS) (x1 : Int32), r_read_214L n s x1 = some (r, s') → BlkI l yX11_read wsX11_read ({ frames := 7, cells := 0, slots := 0, locals := 147 }) cX11_read 2 (some .int) (dC, dI) (tysA cB cI cJ cZ cS) as 214 (mwS cB cI cJ cZ h a s) [(0, .ref h), (1, .int x1)] [] (fun x u => x = r ∧ u = (mwS cB cI cJ cZ h a s')) := by
  intro n
  induction n with
  | zero => intro s x1 hB; exact none_ne hB
  | succ n ih => intro s x1 hB; exact br_read_214 ih _ _ hB
set_option maxHeartbeats 4000000 in
set_option maxRecDepth 100000 in
theorem br_read_159 {l : Launch} {dC : Nat → ClassId} {dI : Nat → Nat → Nat} {cB cI cJ cZ cS : ClassId} {h : Nat} {a : Nat → Nat} {as : List Value} {r : Int32} {s' : RS} (s : RS) (t0 : Int32) (hB : r_read_159 s t0 = some (r, s')) : BlkI l yX11_read wsX11_read ({ frames := 7, cells := 0, slots := 0, locals := 147 }) cX11_read 2 (some .int) (dC, dI) (tysA cB cI cJ cZ cS) as 159 (mwS cB cI cJ cZ h a s) [(0, .ref h)] [.int t0, .ref h] (fun x u => x = r ∧ u = (mwS cB cI cJ cZ h a s')) := by
  intro p e s0 m below meth c A E H locs ls hP hD hS hl
  obtain ⟨C, hr, hlocks, hA, hK, hN⟩ := id E
  obtain ⟨hx, hb, hml, hown, hts⟩ := id C
  unfold r_read_159 at hB
  obtain ⟨s1, hs2, hB⟩ := letS_inv hB
  refine q_put (ty := .int) (w2 := (mwS cB cI cJ cZ h a s1)) tyX11 tyX11_ok nmX11 C inX11_read_X11 hK hP hD hS 0 rfl rfl 17 (by decide) rfl LX11_read_37 rfl (by decide +kernel) (rfl) rfl (Nat.le_of_ble_eq_true rfl) dX11_read_159 (mwS_v17 hs2) (fun H locs hP hD hS => ?_)
  refine lv_aload_n hx hb dX11_read_162 rfl (lv_at hl 0 rfl) ?_
  refine q_get (v := .int (s1.v 13)) C inX11_read_X11 hK hP 0 rfl rfl 13 (by decide) rfl LX11_read_185 rfl dX11_read_163 ?_
  refine lv_if_le (tgt := 174) hx hb dX11_read_166 (by decide) (fun c3 => ?_) (fun c3 => ?_)
  · have hB := if_p hB c3
    refine lv_aload_n hx hb dX11_read_174 rfl (lv_at hl 0 rfl) ?_
    refine q_get (v := .int (s1.v 15)) C inX11_read_X11 hK hP 0 rfl rfl 15 (by decide) rfl LX11_read_194 rfl dX11_read_175 ?_
    refine lv_if_le (tgt := 186) hx hb dX11_read_178 (by decide) (fun c4 => ?_) (fun c4 => ?_)
    · have hB := if_p hB c4
      refine lv_aload_n hx hb dX11_read_186 rfl (lv_at hl 0 rfl) ?_
      refine lv_aload_n hx hb dX11_read_187 rfl (lv_at hl 0 rfl) ?_
      refine q_get (v := .int (s1.v 19)) C inX11_read_X11 hK hP 0 rfl rfl 19 (by decide) rfl LX11_read_218 rfl dX11_read_188 ?_
      obtain ⟨s5, hs6, hB⟩ := letS_inv hB
      refine q_put (ty := .int) (w2 := (mwS cB cI cJ cZ h a s5)) tyX11 tyX11_ok nmX11 C inX11_read_X11 hK hP hD hS 0 rfl rfl 18 (by decide) rfl LX11_read_215 rfl (by decide +kernel) (rfl) rfl (Nat.le_of_ble_eq_true rfl) dX11_read_191 (mwS_v18 hs6) (fun H locs hP hD hS => ?_)
      refine lv_aload_n hx hb dX11_read_194 rfl (lv_at hl 0 rfl) ?_
      obtain ⟨s7, hc, hB⟩ := bindP_inv hB
      refine q_govF (va_runV (As := []) (rest := []) C (cr_begins hc _) (cwV 0 hts gX11_read_X11_begins rfl rfl rfl (by decide +kernel) ⟨Nat.le_of_ble_eq_true rfl, Nat.le_of_ble_eq_true rfl⟩) (q_preV hK hP (ci := 11) (q0 := 0) rfl rfl rfl (q_preF hN hK hP hD)) rfl rfl hl.1 rfl (lv_room (Nat.le_of_ble_eq_true rfl)) dX11_read_195 ⟨Nat.le_of_ble_eq_true rfl, Nat.le_of_ble_eq_true rfl⟩) hD hS hA (fun w1 H locs hw hP hD hS => ?_)
      subst hw
      refine lv_aload_n hx hb dX11_read_198 rfl (lv_at hl 0 rfl) ?_
      obtain ⟨s8, hc, hB⟩ := bindP_inv hB
      refine q_govF (va_runV (As := []) (rest := []) C (cr_keepsRow hc _) (cwV 0 hts gX11_read_X11_keepsRow rfl rfl rfl (by decide +kernel) ⟨Nat.le_of_ble_eq_true rfl, Nat.le_of_ble_eq_true rfl⟩) (q_preV hK hP (ci := 11) (q0 := 0) rfl rfl rfl (q_preF hN hK hP hD)) rfl rfl hl.1 rfl (lv_room (Nat.le_of_ble_eq_true rfl)) dX11_read_199 ⟨Nat.le_of_ble_eq_true rfl, Nat.le_of_ble_eq_true rfl⟩) hD hS hA (fun w1 H locs hw hP hD hS => ?_)
      subst hw
      refine lv_aload_n hx hb dX11_read_202 rfl (lv_at hl 0 rfl) ?_
      refine lv_iconst (v := 0) hx hb dX11_read_203 (by decide) ?_
      obtain ⟨s9, hs10, hB⟩ := letS_inv hB
      refine q_put (ty := .int) (w2 := (mwS cB cI cJ cZ h a s9)) tyX11 tyX11_ok nmX11 C inX11_read_X11 hK hP hD hS 0 rfl rfl 48 (by decide) rfl LX11_read_230 rfl (by decide +kernel) (rfl) rfl (Nat.le_of_ble_eq_true rfl) dX11_read_204 (mwS_v48 hs10) (fun H locs hP hD hS => ?_)
      refine lv_aload_n hx hb dX11_read_207 rfl (lv_at hl 0 rfl) ?_
      refine lv_iconst (v := 0) hx hb dX11_read_208 (by decide) ?_
      obtain ⟨s11, hs12, hB⟩ := letS_inv hB
      refine q_put (ty := .int) (w2 := (mwS cB cI cJ cZ h a s11)) tyX11 tyX11_ok nmX11 C inX11_read_X11 hK hP hD hS 0 rfl rfl 51 (by decide) rfl LX11_read_233 rfl (by decide +kernel) (rfl) rfl (Nat.le_of_ble_eq_true rfl) dX11_read_209 (mwS_v51 hs12) (fun H locs hP hD hS => ?_)
      refine lv_iconst (v := 0) hx hb dX11_read_212 (by decide) ?_
      refine lv_istore_n (lv' := [(1, .int 0), (0, .ref h)]) hx hb dX11_read_213 rfl hl (by decide) rfl (fun ls hl => ?_)
      exact br_read_214L fu _ _ hB p e s0 m below meth c A E H locs ls hP hD hS (lv_sub hl [1, 0] rfl)
    · have hB := if_n hB c4
      refine lv_aload_n hx hb dX11_read_181 rfl (lv_at hl 0 rfl) ?_
      refine q_get (v := .int (s1.v 15)) C inX11_read_X11 hK hP 0 rfl rfl 15 (by decide) rfl LX11_read_194 rfl dX11_read_182 ?_
      exact q_iret C hr hlocks hK hP hD hS (Nat.le_of_ble_eq_true rfl) (Nat.le_of_ble_eq_true rfl) dX11_read_185 (by cases hB; exact ⟨rfl, rfl⟩)
  · have hB := if_n hB c3
    refine lv_aload_n hx hb dX11_read_169 rfl (lv_at hl 0 rfl) ?_
    refine q_get (v := .int (s1.v 13)) C inX11_read_X11 hK hP 0 rfl rfl 13 (by decide) rfl LX11_read_185 rfl dX11_read_170 ?_
    exact q_iret C hr hlocks hK hP hD hS (Nat.le_of_ble_eq_true rfl) (Nat.le_of_ble_eq_true rfl) dX11_read_173 (by cases hB; exact ⟨rfl, rfl⟩)
set_option maxHeartbeats 4000000 in
set_option maxRecDepth 100000 in
theorem br_read_129 {l : Launch} {dC : Nat → ClassId} {dI : Nat → Nat → Nat} {cB cI cJ cZ cS : ClassId} {h : Nat} {a : Nat → Nat} {as : List Value} {r : Int32} {s' : RS} (s : RS) (hB : r_read_129 s = some (r, s')) : BlkI l yX11_read wsX11_read ({ frames := 7, cells := 0, slots := 0, locals := 147 }) cX11_read 2 (some .int) (dC, dI) (tysA cB cI cJ cZ cS) as 129 (mwS cB cI cJ cZ h a s) [(0, .ref h)] [] (fun x u => x = r ∧ u = (mwS cB cI cJ cZ h a s')) := by
  intro p e s0 m below meth c A E H locs ls hP hD hS hl
  obtain ⟨C, hr, hlocks, hA, hK, hN⟩ := id E
  obtain ⟨hx, hb, hml, hown, hts⟩ := id C
  unfold r_read_129 at hB
  refine lv_aload_n hx hb dX11_read_129 rfl (lv_at hl 0 rfl) ?_
  refine lv_aload_n hx hb dX11_read_130 rfl (lv_at hl 0 rfl) ?_
  refine q_get (v := .int (s.v 13)) C inX11_read_X11 hK hP 0 rfl rfl 13 (by decide) rfl LX11_read_185 rfl dX11_read_131 ?_
  refine lv_if_le (tgt := 144) hx hb dX11_read_134 (by decide) (fun c1 => ?_) (fun c1 => ?_)
  · have hB := if_p hB c1
    refine lv_aload_n hx hb dX11_read_144 rfl (lv_at hl 0 rfl) ?_
    refine q_get (v := .int (s.v 15)) C inX11_read_X11 hK hP 0 rfl rfl 15 (by decide) rfl LX11_read_194 rfl dX11_read_145 ?_
    refine lv_if_le (tgt := 158) hx hb dX11_read_148 (by decide) (fun c2 => ?_) (fun c2 => ?_)
    · have hB := if_p hB c2
      refine lv_iconst (v := (-1)) hx hb dX11_read_158 (by decide) ?_
      exact br_read_159 _ _ hB p e s0 m below meth c A E H locs ls hP hD hS (lv_sub hl [0] rfl)
    · have hB := if_n hB c2
      refine lv_aload_n hx hb dX11_read_151 rfl (lv_at hl 0 rfl) ?_
      refine q_get (v := .int (s.v 16)) C inX11_read_X11 hK hP 0 rfl rfl 16 (by decide) rfl LX11_read_197 rfl dX11_read_152 ?_
      refine lv_goto (tgt := 159) hx hb dX11_read_155 (by decide) ?_
      exact br_read_159 _ _ hB p e s0 m below meth c A E H locs ls hP hD hS (lv_sub hl [0] rfl)
  · have hB := if_n hB c1
    refine lv_aload_n hx hb dX11_read_137 rfl (lv_at hl 0 rfl) ?_
    refine q_get (v := .int (s.v 14)) C inX11_read_X11 hK hP 0 rfl rfl 14 (by decide) rfl LX11_read_191 rfl dX11_read_138 ?_
    refine lv_goto (tgt := 159) hx hb dX11_read_141 (by decide) ?_
    exact br_read_159 _ _ hB p e s0 m below meth c A E H locs ls hP hD hS (lv_sub hl [0] rfl)
set_option maxHeartbeats 4000000 in
set_option maxRecDepth 100000 in
theorem br_read_107 {l : Launch} {dC : Nat → ClassId} {dI : Nat → Nat → Nat} {cB cI cJ cZ cS : ClassId} {h : Nat} {a : Nat → Nat} {as : List Value} {r : Int32} {s' : RS} {k107 : RS → Option (Int32 × RS)} (hk107 : ∀ (s : RS), k107 s = some (r, s') → BlkI l yX11_read wsX11_read ({ frames := 7, cells := 0, slots := 0, locals := 147 }) cX11_read 2 (some .int) (dC, dI) (tysA cB cI cJ cZ cS) as 107 (mwS cB cI cJ cZ h a s) [(0, .ref h)] [] (fun x u => x = r ∧ u = (mwS cB cI cJ cZ h a s'))) (s : RS) (hB : r_read_107 k107 s = some (r, s')) : BlkI l yX11_read wsX11_read ({ frames := 7, cells := 0, slots := 0, locals := 147 }) cX11_read 2 (some .int) (dC, dI) (tysA cB cI cJ cZ cS) as 107 (mwS cB cI cJ cZ h a s) [(0, .ref h)] [] (fun x u => x = r ∧ u = (mwS cB cI cJ cZ h a s')) := by
  intro p e s0 m below meth c A E H locs ls hP hD hS hl
  obtain ⟨C, hr, hlocks, hA, hK, hN⟩ := id E
  obtain ⟨hx, hb, hml, hown, hts⟩ := id C
  unfold r_read_107 at hB
  refine lv_aload_n hx hb dX11_read_107 rfl (lv_at hl 0 rfl) ?_
  refine q_get (v := .int (s.v 13)) C inX11_read_X11 hK hP 0 rfl rfl 13 (by decide) rfl LX11_read_185 rfl dX11_read_108 ?_
  refine lv_if_ne (tgt := 129) hx hb dX11_read_111 (by decide) (fun c1 => ?_) (fun c1 => ?_)
  · have hB := if_n hB c1
    exact br_read_129 _ hB p e s0 m below meth c A E H locs ls hP hD hS (lv_sub hl [0] rfl)
  · have hB := if_p hB c1
    refine lv_aload_n hx hb dX11_read_114 rfl (lv_at hl 0 rfl) ?_
    refine lv_iconst (v := 0) hx hb dX11_read_115 (by decide) ?_
    obtain ⟨q_, s2, hc, hB⟩ := bindI_inv hB
    refine q_goiF (va_runV (As := [.int 0]) (rest := []) C (cr_is hc _) (cwV 1 hts gX11_read_X11_is rfl rfl rfl (by decide +kernel) ⟨Nat.le_of_ble_eq_true rfl, Nat.le_of_ble_eq_true rfl⟩) (q_preV hK hP (ci := 11) (q0 := 0) rfl rfl rfl (q_preF hN hK hP hD)) rfl rfl hl.1 rfl (lv_room (Nat.le_of_ble_eq_true rfl)) dX11_read_116 ⟨Nat.le_of_ble_eq_true rfl, Nat.le_of_ble_eq_true rfl⟩) hD hS hA (fun r3 w1 H locs hw hP hD hS => ?_)
    obtain ⟨hq_, hw⟩ := hw; subst hw; subst hq_
    refine lv_if_ne (tgt := 129) hx hb dX11_read_119 (by decide) (fun c4 => ?_) (fun c4 => ?_)
    · have hB := if_n hB c4
      exact br_read_129 _ hB p e s0 m below meth c A E H locs ls hP hD hS (lv_sub hl [0] rfl)
    · have hB := if_p hB c4
      refine lv_aload_n hx hb dX11_read_122 rfl (lv_at hl 0 rfl) ?_
      obtain ⟨s5, hc, hB⟩ := bindP_inv hB
      refine q_govF (va_runV (As := []) (rest := []) C (cr_tellOne hc _) (cwV 0 hts gX11_read_X11_tellOne rfl rfl rfl (by decide +kernel) ⟨Nat.le_of_ble_eq_true rfl, Nat.le_of_ble_eq_true rfl⟩) (q_preV hK hP (ci := 11) (q0 := 0) rfl rfl rfl (q_preF hN hK hP hD)) rfl rfl hl.1 rfl (lv_room (Nat.le_of_ble_eq_true rfl)) dX11_read_123 ⟨Nat.le_of_ble_eq_true rfl, Nat.le_of_ble_eq_true rfl⟩) hD hS hA (fun w1 H locs hw hP hD hS => ?_)
      subst hw
      refine lv_goto (tgt := 107) hx hb dX11_read_126 (by decide) ?_
      exact hk107 _ hB p e s0 m below meth c A E H locs ls hP hD hS (lv_sub hl [0] rfl)
theorem br_read_107L {l : Launch} {dC : Nat → ClassId} {dI : Nat → Nat → Nat} {cB cI cJ cZ cS : ClassId} {h : Nat} {a : Nat → Nat} {as : List Value} {r : Int32} {s' : RS} : ∀ (n : Nat) (s : RS), r_read_107L n s = some (r, s') → BlkI l yX11_read wsX11_read ({ frames := 7, cells := 0, slots := 0, locals := 147 }) cX11_read 2 (some .int) (dC, dI) (tysA cB cI cJ cZ cS) as 107 (mwS cB cI cJ cZ h a s) [(0, .ref h)] [] (fun x u => x = r ∧ u = (mwS cB cI cJ cZ h a s')) := by
  intro n
  induction n with
  | zero => intro s hB; exact none_ne hB
  | succ n ih => intro s hB; exact br_read_107 ih _ hB
set_option maxHeartbeats 4000000 in
set_option maxRecDepth 100000 in
theorem br_read_10 {l : Launch} {dC : Nat → ClassId} {dI : Nat → Nat → Nat} {cB cI cJ cZ cS : ClassId} {h : Nat} {a : Nat → Nat} {as : List Value} {r : Int32} {s' : RS} {k10 : RS → Int32 → Option (Int32 × RS)} (hk10 : ∀ (s : RS) (x1 : Int32), k10 s x1 = some (r, s') → BlkI l yX11_read wsX11_read ({ frames := 7, cells := 0, slots := 0, locals := 147 }) cX11_read 2 (some .int) (dC, dI) (tysA cB cI cJ cZ cS) as 10 (mwS cB cI cJ cZ h a s) [(0, .ref h), (1, .int x1)] [] (fun x u => x = r ∧ u = (mwS cB cI cJ cZ h a s'))) (s : RS) (x1 : Int32) (hB : r_read_10 k10 s x1 = some (r, s')) : BlkI l yX11_read wsX11_read ({ frames := 7, cells := 0, slots := 0, locals := 147 }) cX11_read 2 (some .int) (dC, dI) (tysA cB cI cJ cZ cS) as 10 (mwS cB cI cJ cZ h a s) [(0, .ref h), (1, .int x1)] [] (fun x u => x = r ∧ u = (mwS cB cI cJ cZ h a s')) := by
  intro p e s0 m below meth c A E H locs ls hP hD hS hl
  obtain ⟨C, hr, hlocks, hA, hK, hN⟩ := id E
  obtain ⟨hx, hb, hml, hown, hts⟩ := id C
  unfold r_read_10 at hB
  refine lv_iload_n hx hb dX11_read_10 rfl (lv_at hl 1 rfl) ?_
  refine lv_aload_n hx hb dX11_read_11 rfl (lv_at hl 0 rfl) ?_
  refine q_get (v := .int (s.v 4)) C inX11_read_X11 hK hP 0 rfl rfl 4 (by decide) rfl LX11_read_154 rfl dX11_read_12 ?_
  refine lv_icmp_ge (tgt := 36) hx hb dX11_read_15 (by decide) (fun c1 => ?_) (fun c1 => ?_)
  · have hB := if_p hB c1
    refine lv_aload_n hx hb dX11_read_36 rfl (lv_at hl 0 rfl) ?_
    refine lv_iconst (v := 0) hx hb dX11_read_37 (by decide) ?_
    obtain ⟨s2, hs3, hB⟩ := letS_inv hB
    refine q_put (ty := .int) (w2 := (mwS cB cI cJ cZ h a s2)) tyX11 tyX11_ok nmX11 C inX11_read_X11 hK hP hD hS 0 rfl rfl 2 (by decide) rfl LX11_read_148 rfl (by decide +kernel) (rfl) rfl (Nat.le_of_ble_eq_true rfl) dX11_read_38 (mwS_v2 hs3) (fun H locs hP hD hS => ?_)
    refine lv_aload_n hx hb dX11_read_41 rfl (lv_at hl 0 rfl) ?_
    obtain ⟨s4, hc, hB⟩ := bindP_inv hB
    refine q_govF (va_runV (As := []) (rest := []) C (cr_cut hc _) (cwV 0 hts gX11_read_X11_cut rfl rfl rfl (by decide +kernel) ⟨Nat.le_of_ble_eq_true rfl, Nat.le_of_ble_eq_true rfl⟩) (q_preV hK hP (ci := 11) (q0 := 0) rfl rfl rfl (q_preF hN hK hP hD)) rfl rfl hl.1 rfl (lv_room (Nat.le_of_ble_eq_true rfl)) dX11_read_42 ⟨Nat.le_of_ble_eq_true rfl, Nat.le_of_ble_eq_true rfl⟩) hD hS hA (fun w1 H locs hw hP hD hS => ?_)
    subst hw
    refine lv_aload_n hx hb dX11_read_45 rfl (lv_at hl 0 rfl) ?_
    refine lv_iconst (v := 0) hx hb dX11_read_46 (by decide) ?_
    obtain ⟨s5, hs6, hB⟩ := letS_inv hB
    refine q_put (ty := .int) (w2 := (mwS cB cI cJ cZ h a s5)) tyX11 tyX11_ok nmX11 C inX11_read_X11 hK hP hD hS 0 rfl rfl 11 (by decide) rfl LX11_read_188 rfl (by decide +kernel) (rfl) rfl (Nat.le_of_ble_eq_true rfl) dX11_read_47 (mwS_v11 hs6) (fun H locs hP hD hS => ?_)
    refine lv_aload_n hx hb dX11_read_50 rfl (lv_at hl 0 rfl) ?_
    refine lv_iconst (v := 0) hx hb dX11_read_51 (by decide) ?_
    obtain ⟨s7, hs8, hB⟩ := letS_inv hB
    refine q_put (ty := .int) (w2 := (mwS cB cI cJ cZ h a s7)) tyX11 tyX11_ok nmX11 C inX11_read_X11 hK hP hD hS 0 rfl rfl 12 (by decide) rfl LX11_read_212 rfl (by decide +kernel) (rfl) rfl (Nat.le_of_ble_eq_true rfl) dX11_read_52 (mwS_v12 hs8) (fun H locs hP hD hS => ?_)
    refine lv_aload_n hx hb dX11_read_55 rfl (lv_at hl 0 rfl) ?_
    refine lv_iconst (v := 0) hx hb dX11_read_56 (by decide) ?_
    obtain ⟨s9, hs10, hB⟩ := letS_inv hB
    refine q_put (ty := .int) (w2 := (mwS cB cI cJ cZ h a s9)) tyX11 tyX11_ok nmX11 C inX11_read_X11 hK hP hD hS 0 rfl rfl 13 (by decide) rfl LX11_read_185 rfl (by decide +kernel) (rfl) rfl (Nat.le_of_ble_eq_true rfl) dX11_read_57 (mwS_v13 hs10) (fun H locs hP hD hS => ?_)
    refine lv_aload_n hx hb dX11_read_60 rfl (lv_at hl 0 rfl) ?_
    refine lv_iconst (v := 0) hx hb dX11_read_61 (by decide) ?_
    obtain ⟨s11, hs12, hB⟩ := letS_inv hB
    refine q_put (ty := .int) (w2 := (mwS cB cI cJ cZ h a s11)) tyX11 tyX11_ok nmX11 C inX11_read_X11 hK hP hD hS 0 rfl rfl 15 (by decide) rfl LX11_read_194 rfl (by decide +kernel) (rfl) rfl (Nat.le_of_ble_eq_true rfl) dX11_read_62 (mwS_v15 hs12) (fun H locs hP hD hS => ?_)
    refine lv_aload_n hx hb dX11_read_65 rfl (lv_at hl 0 rfl) ?_
    refine lv_iconst (v := 1) hx hb dX11_read_66 (by decide) ?_
    refine lv_aload_n hx hb dX11_read_67 rfl (lv_at hl 0 rfl) ?_
    refine q_get (v := .int (s11.v 18)) C inX11_read_X11 hK hP 0 rfl rfl 18 (by decide) rfl LX11_read_215 rfl dX11_read_68 ?_
    refine lv_isub hx hb dX11_read_71 ?_
    obtain ⟨s13, hs14, hB⟩ := letS_inv hB
    refine q_put (ty := .int) (w2 := (mwS cB cI cJ cZ h a s13)) tyX11 tyX11_ok nmX11 C inX11_read_X11 hK hP hD hS 0 rfl rfl 19 (by decide) rfl LX11_read_218 rfl (by decide +kernel) (rfl) rfl (Nat.le_of_ble_eq_true rfl) dX11_read_72 (mwS_v19 hs14) (fun H locs hP hD hS => ?_)
    refine lv_aload_n hx hb dX11_read_75 rfl (lv_at hl 0 rfl) ?_
    refine lv_aload_n hx hb dX11_read_76 rfl (lv_at hl 0 rfl) ?_
    refine q_get (v := .int (s13.v 19)) C inX11_read_X11 hK hP 0 rfl rfl 19 (by decide) rfl LX11_read_218 rfl dX11_read_77 ?_
    obtain ⟨s15, hc, hB⟩ := bindP_inv hB
    refine q_govF (va_runV (As := [.int (s13.v 19)]) (rest := []) C (cr_plain hc _) (cwV 1 hts gX11_read_X11_plain rfl rfl rfl (by decide +kernel) ⟨Nat.le_of_ble_eq_true rfl, Nat.le_of_ble_eq_true rfl⟩) (q_preV hK hP (ci := 11) (q0 := 0) rfl rfl rfl (q_preF hN hK hP hD)) rfl rfl hl.1 rfl (lv_room (Nat.le_of_ble_eq_true rfl)) dX11_read_80 ⟨Nat.le_of_ble_eq_true rfl, Nat.le_of_ble_eq_true rfl⟩) hD hS hA (fun w1 H locs hw hP hD hS => ?_)
    subst hw
    refine lv_aload_n hx hb dX11_read_83 rfl (lv_at hl 0 rfl) ?_
    refine lv_sipush (v := 130) hx hb dX11_read_84 (by decide) ?_
    refine lv_aload_n hx hb dX11_read_87 rfl (lv_at hl 0 rfl) ?_
    refine q_get (v := .int (s15.v 19)) C inX11_read_X11 hK hP 0 rfl rfl 19 (by decide) rfl LX11_read_218 rfl dX11_read_88 ?_
    refine lv_imul hx hb dX11_read_91 ?_
    obtain ⟨s16, hs17, hB⟩ := letS_inv hB
    refine q_put (ty := .int) (w2 := (mwS cB cI cJ cZ h a s16)) tyX11 tyX11_ok nmX11 C inX11_read_X11 hK hP hD hS 0 rfl rfl 29 (by decide) rfl LX11_read_221 rfl (by decide +kernel) (rfl) rfl (Nat.le_of_ble_eq_true rfl) dX11_read_92 (mwS_v29 hs17) (fun H locs hP hD hS => ?_)
    refine lv_aload_n hx hb dX11_read_95 rfl (lv_at hl 0 rfl) ?_
    refine lv_sipush (v := 420) hx hb dX11_read_96 (by decide) ?_
    refine lv_aload_n hx hb dX11_read_99 rfl (lv_at hl 0 rfl) ?_
    refine q_get (v := .int (s16.v 19)) C inX11_read_X11 hK hP 0 rfl rfl 19 (by decide) rfl LX11_read_218 rfl dX11_read_100 ?_
    refine lv_imul hx hb dX11_read_103 ?_
    obtain ⟨s18, hs19, hB⟩ := letS_inv hB
    refine q_put (ty := .int) (w2 := (mwS cB cI cJ cZ h a s18)) tyX11 tyX11_ok nmX11 C inX11_read_X11 hK hP hD hS 0 rfl rfl 35 (by decide) rfl LX11_read_224 rfl (by decide +kernel) (rfl) rfl (Nat.le_of_ble_eq_true rfl) dX11_read_104 (mwS_v35 hs19) (fun H locs hP hD hS => ?_)
    exact br_read_107L fu _ hB p e s0 m below meth c A E H locs ls hP hD hS (lv_sub hl [0] rfl)
  · have hB := if_n hB c1
    refine lv_aload_n hx hb dX11_read_18 rfl (lv_at hl 0 rfl) ?_
    refine q_get (v := .ref (a 3)) C inX11_read_X11 hK hP 0 rfl rfl 3 (by decide) rfl LX11_read_17 rfl dX11_read_19 ?_
    refine lv_iload_n hx hb dX11_read_22 rfl (lv_at hl 1 rfl) ?_
    refine lv_aload_n hx hb dX11_read_23 rfl (lv_at hl 0 rfl) ?_
    refine q_get (v := .ref (a 1)) C inX11_read_X11 hK hP 0 rfl rfl 1 (by decide) rfl LX11_read_13 rfl dX11_read_24 ?_
    refine lv_iload_n hx hb dX11_read_27 rfl (lv_at hl 1 rfl) ?_
    obtain ⟨g20, hB⟩ := guard_inv hB
    refine q_bald (x := (s.f 1 (Int32.toNatClampNeg x1))) C hK hP 1 0 rfl rfl (vpb_in g20) dX11_read_28 rfl ?_
    obtain ⟨g21, hB⟩ := guard_inv hB
    obtain ⟨s22, hs23, hB⟩ := letS_inv hB
    refine q_bast (f2 := (upd (s.f 3) (Int32.toNatClampNeg x1) (vp_nar .byte (s.f 1 (Int32.toNatClampNeg x1))))) (w2 := (mwS cB cI cJ cZ h a s22)) C hK hP hD hS 2 0 rfl rfl (vpb_in g21) dX11_read_29 rfl (mwS_f3 hs23) (fun H locs hP hD hS => ?_)
    refine lv_iinc (v := (x1 + 1)) (lv' := [(1, .int (x1 + 1)), (0, .ref h)]) hx hb dX11_read_30 hl (k := 1) rfl (rfl) (by decide) rfl (fun ls hl => ?_)
    refine lv_goto (tgt := 10) hx hb dX11_read_33 (by decide) ?_
    exact hk10 _ _ hB p e s0 m below meth c A E H locs ls hP hD hS (lv_sub hl [1, 0] rfl)
theorem br_read_10L {l : Launch} {dC : Nat → ClassId} {dI : Nat → Nat → Nat} {cB cI cJ cZ cS : ClassId} {h : Nat} {a : Nat → Nat} {as : List Value} {r : Int32} {s' : RS} : ∀ (n : Nat) (s : RS) (x1 : Int32), r_read_10L n s x1 = some (r, s') → BlkI l yX11_read wsX11_read ({ frames := 7, cells := 0, slots := 0, locals := 147 }) cX11_read 2 (some .int) (dC, dI) (tysA cB cI cJ cZ cS) as 10 (mwS cB cI cJ cZ h a s) [(0, .ref h), (1, .int x1)] [] (fun x u => x = r ∧ u = (mwS cB cI cJ cZ h a s')) := by
  intro n
  induction n with
  | zero => intro s x1 hB; exact none_ne hB
  | succ n ih => intro s x1 hB; exact br_read_10 ih _ _ hB
set_option maxHeartbeats 4000000 in
set_option maxRecDepth 100000 in
theorem br_read {l : Launch} {dC : Nat → ClassId} {dI : Nat → Nat → Nat} {cB cI cJ cZ cS : ClassId} {h : Nat} {a : Nat → Nat} {as : List Value} {r : Int32} {s' : RS} (s : RS) (hB : r_read s = some (r, s')) : BlkI l yX11_read wsX11_read ({ frames := 7, cells := 0, slots := 0, locals := 147 }) cX11_read 2 (some .int) (dC, dI) (tysA cB cI cJ cZ cS) as 0 (mwS cB cI cJ cZ h a s) [(0, .ref h)] [] (fun x u => x = r ∧ u = (mwS cB cI cJ cZ h a s')) := by
  intro p e s0 m below meth c A E H locs ls hP hD hS hl
  obtain ⟨C, hr, hlocks, hA, hK, hN⟩ := id E
  obtain ⟨hx, hb, hml, hown, hts⟩ := id C
  unfold r_read at hB
  refine lv_aload_n hx hb dX11_read_0 rfl (lv_at hl 0 rfl) ?_
  refine lv_aload_n hx hb dX11_read_1 rfl (lv_at hl 0 rfl) ?_
  refine q_get (v := .int (s.v 2)) C inX11_read_X11 hK hP 0 rfl rfl 2 (by decide) rfl LX11_read_148 rfl dX11_read_2 ?_
  obtain ⟨s1, hs2, hB⟩ := letS_inv hB
  refine q_put (ty := .int) (w2 := (mwS cB cI cJ cZ h a s1)) tyX11 tyX11_ok nmX11 C inX11_read_X11 hK hP hD hS 0 rfl rfl 4 (by decide) rfl LX11_read_154 rfl (by decide +kernel) (rfl) rfl (Nat.le_of_ble_eq_true rfl) dX11_read_5 (mwS_v4 hs2) (fun H locs hP hD hS => ?_)
  refine lv_iconst (v := 0) hx hb dX11_read_8 (by decide) ?_
  refine lv_istore_n (lv' := [(1, .int 0), (0, .ref h)]) hx hb dX11_read_9 rfl hl (by decide) rfl (fun ls hl => ?_)
  exact br_read_10L fu _ _ hB p e s0 m below meth c A E H locs ls hP hD hS (lv_sub hl [1, 0] rfl)
theorem cr_read {l : Launch} {dC : Nat → ClassId} {dI : Nat → Nat → Nat} {cB cI cJ cZ cS : ClassId} {h : Nat} {a : Nat → Nat} {r : Int32} {s' : RS} {s : RS} (hB : r_read s = some (r, s')) : CI l yX11_read wsX11_read ({ frames := 7, cells := 0, slots := 0, locals := 147 }) (dC, dI) (tysA cB cI cJ cZ cS) (mwS cB cI cJ cZ h a s) [.ref h] (fun x u => x = r ∧ u = (mwS cB cI cJ cZ h a s')) :=
  CI_of (cc := cX11_read) (maxL := 2) (ret := (some .int)) (by decide) rfl (Nat.le_of_ble_eq_true rfl) (br_read _ hB)
theorem LX11_place_37 : Cond.fieldLink RX11 37 "GuessFerryModel" "place" "I" ∈ wsX11_place := by decide +kernel
theorem inX11_place_X11 : ∀ w ∈ u_ws RX11 TX11 58, w ∈ wsX11_place := fun _ h => List.mem_cons_of_mem _ (List.mem_append_right _ h)
set_option maxHeartbeats 4000000 in
set_option maxRecDepth 100000 in
theorem br_place {l : Launch} {dC : Nat → ClassId} {dI : Nat → Nat → Nat} {cB cI cJ cZ cS : ClassId} {h : Nat} {a : Nat → Nat} {as : List Value} {r : Int32} {s' : RS} (s : RS) (hB : r_place s = some (r, s')) : BlkI l yX11_place wsX11_place ({ frames := 0, cells := 0, slots := 0, locals := 0 }) cX11_place 1 (some .int) (dC, dI) (tysA cB cI cJ cZ cS) as 0 (mwS cB cI cJ cZ h a s) [(0, .ref h)] [] (fun x u => x = r ∧ u = (mwS cB cI cJ cZ h a s')) := by
  intro p e s0 m below meth c A E H locs ls hP hD hS hl
  obtain ⟨C, hr, hlocks, hA, hK, hN⟩ := id E
  obtain ⟨hx, hb, hml, hown, hts⟩ := id C
  unfold r_place at hB
  refine lv_aload_n hx hb dX11_place_0 rfl (lv_at hl 0 rfl) ?_
  refine q_get (v := .int (s.v 17)) C inX11_place_X11 hK hP 0 rfl rfl 17 (by decide) rfl LX11_place_37 rfl dX11_place_1 ?_
  exact q_iret C hr hlocks hK hP hD hS (Nat.le_of_ble_eq_true rfl) (Nat.le_of_ble_eq_true rfl) dX11_place_4 (by cases hB; exact ⟨rfl, rfl⟩)
theorem cr_place {l : Launch} {dC : Nat → ClassId} {dI : Nat → Nat → Nat} {cB cI cJ cZ cS : ClassId} {h : Nat} {a : Nat → Nat} {r : Int32} {s' : RS} {s : RS} (hB : r_place s = some (r, s')) : CI l yX11_place wsX11_place ({ frames := 0, cells := 0, slots := 0, locals := 0 }) (dC, dI) (tysA cB cI cJ cZ cS) (mwS cB cI cJ cZ h a s) [.ref h] (fun x u => x = r ∧ u = (mwS cB cI cJ cZ h a s')) :=
  CI_of (cc := cX11_place) (maxL := 1) (ret := (some .int)) (by decide) rfl (Nat.le_of_ble_eq_true rfl) (br_place _ hB)
theorem LX11_termOf_277 : Cond.fieldLink RX11 277 "GuessFerryModel" "isBroken" "Z" ∈ wsX11_termOf := by decide +kernel
theorem LX11_termOf_83 : Cond.fieldLink RX11 83 "GuessFerryModel" "code" "[I" ∈ wsX11_termOf := by decide +kernel
theorem LX11_termOf_86 : Cond.fieldLink RX11 86 "GuessFerryModel" "codeInt" "[I" ∈ wsX11_termOf := by decide +kernel
theorem LX11_termOf_92 : Cond.fieldLink RX11 92 "GuessFerryModel" "variables" "[I" ∈ wsX11_termOf := by decide +kernel
theorem LX11_termOf_95 : Cond.fieldLink RX11 95 "GuessFerryModel" "pile" "[I" ∈ wsX11_termOf := by decide +kernel
theorem inX11_termOf_X11 : ∀ w ∈ u_ws RX11 TX11 58, w ∈ wsX11_termOf := fun _ h => List.mem_cons_of_mem _ (List.mem_append_right _ h)
set_option maxHeartbeats 4000000 in
set_option maxRecDepth 100000 in
theorem br_termOf_159 {l : Launch} {dC : Nat → ClassId} {dI : Nat → Nat → Nat} {cB cI cJ cZ cS : ClassId} {h : Nat} {a : Nat → Nat} {as : List Value} {r : Int32} {s' : RS} {k5 : RS → Int32 → Int32 → Int32 → Option (Int32 × RS)} (hk5 : ∀ (s : RS) (x2 : Int32) (x3 : Int32) (x4 : Int32), k5 s x2 x3 x4 = some (r, s') → BlkI l yX11_termOf wsX11_termOf ({ frames := 0, cells := 0, slots := 0, locals := 0 }) cX11_termOf 8 (some .int) (dC, dI) (tysA cB cI cJ cZ cS) as 5 (mwS cB cI cJ cZ h a s) [(0, .ref h), (2, .int x2), (3, .int x3), (4, .int x4)] [] (fun x u => x = r ∧ u = (mwS cB cI cJ cZ h a s'))) (s : RS) (x2 : Int32) (x3 : Int32) (x4 : Int32) (hB : r_termOf_159 k5 s x2 x3 x4 = some (r, s')) : BlkI l yX11_termOf wsX11_termOf ({ frames := 0, cells := 0, slots := 0, locals := 0 }) cX11_termOf 8 (some .int) (dC, dI) (tysA cB cI cJ cZ cS) as 159 (mwS cB cI cJ cZ h a s) [(0, .ref h), (2, .int x2), (3, .int x3), (4, .int x4)] [] (fun x u => x = r ∧ u = (mwS cB cI cJ cZ h a s')) := by
  intro p e s0 m below meth c A E H locs ls hP hD hS hl
  obtain ⟨C, hr, hlocks, hA, hK, hN⟩ := id E
  obtain ⟨hx, hb, hml, hown, hts⟩ := id C
  unfold r_termOf_159 at hB
  refine lv_iinc (v := (x4 + 1)) (lv' := [(4, .int (x4 + 1)), (0, .ref h), (2, .int x2), (3, .int x3)]) hx hb dX11_termOf_159 hl (k := 3) rfl (rfl) (by decide) rfl (fun ls hl => ?_)
  refine lv_goto (tgt := 5) hx hb dX11_termOf_162 (by decide) ?_
  exact hk5 _ _ _ _ hB p e s0 m below meth c A E H locs ls hP hD hS (lv_sub hl [1, 2, 3, 0] rfl)
set_option maxHeartbeats 4000000 in
set_option maxRecDepth 100000 in
theorem br_termOf_158 {l : Launch} {dC : Nat → ClassId} {dI : Nat → Nat → Nat} {cB cI cJ cZ cS : ClassId} {h : Nat} {a : Nat → Nat} {as : List Value} {r : Int32} {s' : RS} {k5 : RS → Int32 → Int32 → Int32 → Option (Int32 × RS)} (hk5 : ∀ (s : RS) (x2 : Int32) (x3 : Int32) (x4 : Int32), k5 s x2 x3 x4 = some (r, s') → BlkI l yX11_termOf wsX11_termOf ({ frames := 0, cells := 0, slots := 0, locals := 0 }) cX11_termOf 8 (some .int) (dC, dI) (tysA cB cI cJ cZ cS) as 5 (mwS cB cI cJ cZ h a s) [(0, .ref h), (2, .int x2), (3, .int x3), (4, .int x4)] [] (fun x u => x = r ∧ u = (mwS cB cI cJ cZ h a s'))) (s : RS) (x2 : Int32) (x3 : Int32) (x4 : Int32) (t0 : Int32) (t1 : Int32) (hB : r_termOf_158 k5 s x2 x3 x4 t0 t1 = some (r, s')) : BlkI l yX11_termOf wsX11_termOf ({ frames := 0, cells := 0, slots := 0, locals := 0 }) cX11_termOf 8 (some .int) (dC, dI) (tysA cB cI cJ cZ cS) as 158 (mwS cB cI cJ cZ h a s) [(0, .ref h), (2, .int x2), (3, .int x3), (4, .int x4)] [.int t0, .int t1, .ref (a 41)] (fun x u => x = r ∧ u = (mwS cB cI cJ cZ h a s')) := by
  intro p e s0 m below meth c A E H locs ls hP hD hS hl
  obtain ⟨C, hr, hlocks, hA, hK, hN⟩ := id E
  obtain ⟨hx, hb, hml, hown, hts⟩ := id C
  unfold r_termOf_158 at hB
  obtain ⟨g1, hB⟩ := guard_inv hB
  obtain ⟨s2, hs3, hB⟩ := letS_inv hB
  refine q_iast (f2 := (upd (s.f 41) (Int32.toNatClampNeg t1) t0)) (w2 := (mwS cB cI cJ cZ h a s2)) C hK hP hD hS 26 1 rfl rfl (vpb_in g1) dX11_termOf_158 rfl (mwS_f41 hs3) (fun H locs hP hD hS => ?_)
  exact br_termOf_159 (hk5) _ _ _ _ hB p e s0 m below meth c A E H locs ls hP hD hS (lv_sub hl [0, 1, 2, 3] rfl)
set_option maxHeartbeats 4000000 in
set_option maxRecDepth 100000 in
theorem br_termOf_104 {l : Launch} {dC : Nat → ClassId} {dI : Nat → Nat → Nat} {cB cI cJ cZ cS : ClassId} {h : Nat} {a : Nat → Nat} {as : List Value} {r : Int32} {s' : RS} {k5 : RS → Int32 → Int32 → Int32 → Option (Int32 × RS)} (hk5 : ∀ (s : RS) (x2 : Int32) (x3 : Int32) (x4 : Int32), k5 s x2 x3 x4 = some (r, s') → BlkI l yX11_termOf wsX11_termOf ({ frames := 0, cells := 0, slots := 0, locals := 0 }) cX11_termOf 8 (some .int) (dC, dI) (tysA cB cI cJ cZ cS) as 5 (mwS cB cI cJ cZ h a s) [(0, .ref h), (2, .int x2), (3, .int x3), (4, .int x4)] [] (fun x u => x = r ∧ u = (mwS cB cI cJ cZ h a s'))) (s : RS) (x2 : Int32) (x3 : Int32) (x4 : Int32) (x5 : Int32) (x6 : Int32) (x7 : Int32) (hB : r_termOf_104 k5 s x2 x3 x4 x5 x6 x7 = some (r, s')) : BlkI l yX11_termOf wsX11_termOf ({ frames := 0, cells := 0, slots := 0, locals := 0 }) cX11_termOf 8 (some .int) (dC, dI) (tysA cB cI cJ cZ cS) as 104 (mwS cB cI cJ cZ h a s) [(0, .ref h), (2, .int x2), (3, .int x3), (4, .int x4), (5, .int x5), (6, .int x6), (7, .int x7)] [] (fun x u => x = r ∧ u = (mwS cB cI cJ cZ h a s')) := by
  intro p e s0 m below meth c A E H locs ls hP hD hS hl
  obtain ⟨C, hr, hlocks, hA, hK, hN⟩ := id E
  obtain ⟨hx, hb, hml, hown, hts⟩ := id C
  unfold r_termOf_104 at hB
  refine lv_aload_n hx hb dX11_termOf_104 rfl (lv_at hl 0 rfl) ?_
  refine q_get (v := .ref (a 41)) C inX11_termOf_X11 hK hP 0 rfl rfl 41 (by decide) rfl LX11_termOf_95 rfl dX11_termOf_105 ?_
  refine lv_iload_n hx hb dX11_termOf_108 rfl (lv_at hl 2 rfl) ?_
  refine lv_iconst (v := 1) hx hb dX11_termOf_109 (by decide) ?_
  refine lv_isub hx hb dX11_termOf_110 ?_
  refine lv_iload hx hb dX11_termOf_111 (lv_at hl 4 rfl) ?_
  refine lv_iconst (v := 2) hx hb dX11_termOf_113 (by decide) ?_
  refine lv_icmp_ne (tgt := 125) hx hb dX11_termOf_114 (by decide) (fun c1 => ?_) (fun c1 => ?_)
  · have hB := if_n hB c1
    refine lv_iload hx hb dX11_termOf_125 (lv_at hl 4 rfl) ?_
    refine lv_iconst (v := 3) hx hb dX11_termOf_127 (by decide) ?_
    refine lv_icmp_ne (tgt := 139) hx hb dX11_termOf_128 (by decide) (fun c2 => ?_) (fun c2 => ?_)
    · have hB := if_n hB c2
      refine lv_iload hx hb dX11_termOf_139 (lv_at hl 4 rfl) ?_
      refine lv_iconst (v := 4) hx hb dX11_termOf_141 (by decide) ?_
      refine lv_icmp_ne (tgt := 153) hx hb dX11_termOf_142 (by decide) (fun c3 => ?_) (fun c3 => ?_)
      · have hB := if_n hB c3
        refine lv_iload hx hb dX11_termOf_153 (lv_at hl 5 rfl) ?_
        refine lv_iload hx hb dX11_termOf_155 (lv_at hl 6 rfl) ?_
        obtain ⟨z4, hB⟩ := guard_inv hB
        refine lv_idiv hx hb dX11_termOf_157 z4 ?_
        exact br_termOf_158 (hk5) _ _ _ _ _ _ hB p e s0 m below meth c A E H locs ls hP hD hS (lv_sub hl [0, 1, 2, 3] rfl)
      · have hB := if_p hB c3
        refine lv_iload hx hb dX11_termOf_145 (lv_at hl 5 rfl) ?_
        refine lv_iload hx hb dX11_termOf_147 (lv_at hl 6 rfl) ?_
        refine lv_imul hx hb dX11_termOf_149 ?_
        refine lv_goto (tgt := 158) hx hb dX11_termOf_150 (by decide) ?_
        exact br_termOf_158 (hk5) _ _ _ _ _ _ hB p e s0 m below meth c A E H locs ls hP hD hS (lv_sub hl [0, 1, 2, 3] rfl)
    · have hB := if_p hB c2
      refine lv_iload hx hb dX11_termOf_131 (lv_at hl 5 rfl) ?_
      refine lv_iload hx hb dX11_termOf_133 (lv_at hl 6 rfl) ?_
      refine lv_isub hx hb dX11_termOf_135 ?_
      refine lv_goto (tgt := 158) hx hb dX11_termOf_136 (by decide) ?_
      exact br_termOf_158 (hk5) _ _ _ _ _ _ hB p e s0 m below meth c A E H locs ls hP hD hS (lv_sub hl [0, 1, 2, 3] rfl)
  · have hB := if_p hB c1
    refine lv_iload hx hb dX11_termOf_117 (lv_at hl 5 rfl) ?_
    refine lv_iload hx hb dX11_termOf_119 (lv_at hl 6 rfl) ?_
    refine lv_iadd hx hb dX11_termOf_121 ?_
    refine lv_goto (tgt := 158) hx hb dX11_termOf_122 (by decide) ?_
    exact br_termOf_158 (hk5) _ _ _ _ _ _ hB p e s0 m below meth c A E H locs ls hP hD hS (lv_sub hl [0, 1, 2, 3] rfl)
set_option maxHeartbeats 4000000 in
set_option maxRecDepth 100000 in
theorem br_termOf_58 {l : Launch} {dC : Nat → ClassId} {dI : Nat → Nat → Nat} {cB cI cJ cZ cS : ClassId} {h : Nat} {a : Nat → Nat} {as : List Value} {r : Int32} {s' : RS} {k5 : RS → Int32 → Int32 → Int32 → Option (Int32 × RS)} (hk5 : ∀ (s : RS) (x2 : Int32) (x3 : Int32) (x4 : Int32), k5 s x2 x3 x4 = some (r, s') → BlkI l yX11_termOf wsX11_termOf ({ frames := 0, cells := 0, slots := 0, locals := 0 }) cX11_termOf 8 (some .int) (dC, dI) (tysA cB cI cJ cZ cS) as 5 (mwS cB cI cJ cZ h a s) [(0, .ref h), (2, .int x2), (3, .int x3), (4, .int x4)] [] (fun x u => x = r ∧ u = (mwS cB cI cJ cZ h a s'))) (s : RS) (x2 : Int32) (x3 : Int32) (x4 : Int32) (t0 : Int32) (t1 : Int32) (hB : r_termOf_58 k5 s x2 x3 x4 t0 t1 = some (r, s')) : BlkI l yX11_termOf wsX11_termOf ({ frames := 0, cells := 0, slots := 0, locals := 0 }) cX11_termOf 8 (some .int) (dC, dI) (tysA cB cI cJ cZ cS) as 58 (mwS cB cI cJ cZ h a s) [(0, .ref h), (2, .int x2), (3, .int x3), (4, .int x4)] [.int t0, .int t1, .ref (a 41)] (fun x u => x = r ∧ u = (mwS cB cI cJ cZ h a s')) := by
  intro p e s0 m below meth c A E H locs ls hP hD hS hl
  obtain ⟨C, hr, hlocks, hA, hK, hN⟩ := id E
  obtain ⟨hx, hb, hml, hown, hts⟩ := id C
  unfold r_termOf_58 at hB
  obtain ⟨g1, hB⟩ := guard_inv hB
  obtain ⟨s2, hs3, hB⟩ := letS_inv hB
  refine q_iast (f2 := (upd (s.f 41) (Int32.toNatClampNeg t1) t0)) (w2 := (mwS cB cI cJ cZ h a s2)) C hK hP hD hS 26 1 rfl rfl (vpb_in g1) dX11_termOf_58 rfl (mwS_f41 hs3) (fun H locs hP hD hS => ?_)
  refine lv_iinc (v := (x3 + 1)) (lv' := [(3, .int (x3 + 1)), (0, .ref h), (2, .int x2), (4, .int x4)]) hx hb dX11_termOf_59 hl (k := 2) rfl (rfl) (by decide) rfl (fun ls hl => ?_)
  refine lv_goto (tgt := 159) hx hb dX11_termOf_62 (by decide) ?_
  exact br_termOf_159 (hk5) _ _ _ _ hB p e s0 m below meth c A E H locs ls hP hD hS (lv_sub hl [1, 2, 0, 3] rfl)
set_option maxHeartbeats 4000000 in
set_option maxRecDepth 100000 in
theorem br_termOf_5 {l : Launch} {dC : Nat → ClassId} {dI : Nat → Nat → Nat} {cB cI cJ cZ cS : ClassId} {h : Nat} {a : Nat → Nat} {as : List Value} {r : Int32} {s' : RS} {k5 : RS → Int32 → Int32 → Int32 → Option (Int32 × RS)} (hk5 : ∀ (s : RS) (x2 : Int32) (x3 : Int32) (x4 : Int32), k5 s x2 x3 x4 = some (r, s') → BlkI l yX11_termOf wsX11_termOf ({ frames := 0, cells := 0, slots := 0, locals := 0 }) cX11_termOf 8 (some .int) (dC, dI) (tysA cB cI cJ cZ cS) as 5 (mwS cB cI cJ cZ h a s) [(0, .ref h), (2, .int x2), (3, .int x3), (4, .int x4)] [] (fun x u => x = r ∧ u = (mwS cB cI cJ cZ h a s'))) (s : RS) (x2 : Int32) (x3 : Int32) (x4 : Int32) (hB : r_termOf_5 k5 s x2 x3 x4 = some (r, s')) : BlkI l yX11_termOf wsX11_termOf ({ frames := 0, cells := 0, slots := 0, locals := 0 }) cX11_termOf 8 (some .int) (dC, dI) (tysA cB cI cJ cZ cS) as 5 (mwS cB cI cJ cZ h a s) [(0, .ref h), (2, .int x2), (3, .int x3), (4, .int x4)] [] (fun x u => x = r ∧ u = (mwS cB cI cJ cZ h a s')) := by
  intro p e s0 m below meth c A E H locs ls hP hD hS hl
  obtain ⟨C, hr, hlocks, hA, hK, hN⟩ := id E
  obtain ⟨hx, hb, hml, hown, hts⟩ := id C
  unfold r_termOf_5 at hB
  refine lv_iload hx hb dX11_termOf_5 (lv_at hl 3 rfl) ?_
  refine lv_iload_n hx hb dX11_termOf_7 rfl (lv_at hl 1 rfl) ?_
  refine lv_icmp_ge (tgt := 165) hx hb dX11_termOf_8 (by decide) (fun c1 => ?_) (fun c1 => ?_)
  · have hB := if_p hB c1
    refine lv_aload_n hx hb dX11_termOf_165 rfl (lv_at hl 0 rfl) ?_
    refine q_get (v := .ref (a 41)) C inX11_termOf_X11 hK hP 0 rfl rfl 41 (by decide) rfl LX11_termOf_95 rfl dX11_termOf_166 ?_
    refine lv_iconst (v := 0) hx hb dX11_termOf_169 (by decide) ?_
    refine q_iald (x := (s.f 41 0)) C hK hP 26 1 rfl rfl (vp_lit (by decide +kernel)) dX11_termOf_170 rfl ?_
    exact q_iret C hr hlocks hK hP hD hS (Nat.le_of_ble_eq_true rfl) (Nat.le_of_ble_eq_true rfl) dX11_termOf_171 (by cases hB; exact ⟨rfl, rfl⟩)
  · have hB := if_n hB c1
    refine lv_aload_n hx hb dX11_termOf_11 rfl (lv_at hl 0 rfl) ?_
    refine q_get (v := .ref (a 36)) C inX11_termOf_X11 hK hP 0 rfl rfl 36 (by decide) rfl LX11_termOf_83 rfl dX11_termOf_12 ?_
    refine lv_iload hx hb dX11_termOf_15 (lv_at hl 3 rfl) ?_
    obtain ⟨g2, hB⟩ := guard_inv hB
    refine q_iald (x := (s.f 36 (Int32.toNatClampNeg x4))) C hK hP 22 1 rfl rfl (vpb_in g2) dX11_termOf_17 rfl ?_
    refine lv_istore (lv' := [(5, .int (s.f 36 (Int32.toNatClampNeg x4))), (0, .ref h), (2, .int x2), (3, .int x3), (4, .int x4)]) hx hb dX11_termOf_18 hl (by decide) rfl (fun ls hl => ?_)
    refine lv_iload hx hb dX11_termOf_20 (lv_at hl 0 rfl) ?_
    refine lv_iconst (v := 2) hx hb dX11_termOf_22 (by decide) ?_
    refine lv_icmp_ge (tgt := 65) hx hb dX11_termOf_23 (by decide) (fun c3 => ?_) (fun c3 => ?_)
    · have hB := if_p hB c3
      refine lv_iinc (v := (x3 + (-1))) (lv' := [(3, .int (x3 + (-1))), (5, .int (s.f 36 (Int32.toNatClampNeg x4))), (0, .ref h), (2, .int x2), (4, .int x4)]) hx hb dX11_termOf_65 hl (k := 3) rfl (rfl) (by decide) rfl (fun ls hl => ?_)
      refine lv_aload_n hx hb dX11_termOf_68 rfl (lv_at hl 2 rfl) ?_
      refine q_get (v := .ref (a 41)) C inX11_termOf_X11 hK hP 0 rfl rfl 41 (by decide) rfl LX11_termOf_95 rfl dX11_termOf_69 ?_
      refine lv_iload_n hx hb dX11_termOf_72 rfl (lv_at hl 0 rfl) ?_
      refine lv_iconst (v := 1) hx hb dX11_termOf_73 (by decide) ?_
      refine lv_isub hx hb dX11_termOf_74 ?_
      obtain ⟨g4, hB⟩ := guard_inv hB
      refine q_iald (x := (s.f 41 (Int32.toNatClampNeg ((x3 + (-1)) - 1)))) C hK hP 26 1 rfl rfl (vpb_in g4) dX11_termOf_75 rfl ?_
      refine lv_istore (lv' := [(6, .int (s.f 41 (Int32.toNatClampNeg ((x3 + (-1)) - 1)))), (3, .int (x3 + (-1))), (5, .int (s.f 36 (Int32.toNatClampNeg x4))), (0, .ref h), (2, .int x2), (4, .int x4)]) hx hb dX11_termOf_76 hl (by decide) rfl (fun ls hl => ?_)
      refine lv_aload_n hx hb dX11_termOf_78 rfl (lv_at hl 3 rfl) ?_
      refine q_get (v := .ref (a 41)) C inX11_termOf_X11 hK hP 0 rfl rfl 41 (by decide) rfl LX11_termOf_95 rfl dX11_termOf_79 ?_
      refine lv_iload_n hx hb dX11_termOf_82 rfl (lv_at hl 1 rfl) ?_
      obtain ⟨g5, hB⟩ := guard_inv hB
      refine q_iald (x := (s.f 41 (Int32.toNatClampNeg (x3 + (-1))))) C hK hP 26 1 rfl rfl (vpb_in g5) dX11_termOf_83 rfl ?_
      refine lv_istore (lv' := [(7, .int (s.f 41 (Int32.toNatClampNeg (x3 + (-1))))), (6, .int (s.f 41 (Int32.toNatClampNeg ((x3 + (-1)) - 1)))), (3, .int (x3 + (-1))), (5, .int (s.f 36 (Int32.toNatClampNeg x4))), (0, .ref h), (2, .int x2), (4, .int x4)]) hx hb dX11_termOf_84 hl (by decide) rfl (fun ls hl => ?_)
      refine lv_iload hx hb dX11_termOf_86 (lv_at hl 3 rfl) ?_
      refine lv_iconst (v := 5) hx hb dX11_termOf_88 (by decide) ?_
      refine lv_icmp_ne (tgt := 104) hx hb dX11_termOf_89 (by decide) (fun c6 => ?_) (fun c6 => ?_)
      · have hB := if_n hB c6
        exact br_termOf_104 (hk5) _ _ _ _ _ _ _ hB p e s0 m below meth c A E H locs ls hP hD hS (lv_sub hl [4, 5, 2, 6, 3, 1, 0] rfl)
      · have hB := if_p hB c6
        refine lv_iload hx hb dX11_termOf_92 (lv_at hl 0 rfl) ?_
        refine lv_if_ne (tgt := 104) hx hb dX11_termOf_94 (by decide) (fun c7 => ?_) (fun c7 => ?_)
        · have hB := if_n hB c7
          exact br_termOf_104 (hk5) _ _ _ _ _ _ _ hB p e s0 m below meth c A E H locs ls hP hD hS (lv_sub hl [4, 5, 2, 6, 3, 1, 0] rfl)
        · have hB := if_p hB c7
          refine lv_aload_n hx hb dX11_termOf_97 rfl (lv_at hl 4 rfl) ?_
          refine lv_iconst (v := 1) hx hb dX11_termOf_98 (by decide) ?_
          obtain ⟨s8, hs9, hB⟩ := letS_inv hB
          refine q_put (ty := .boolean) (w2 := (mwS cB cI cJ cZ h a s8)) tyX11 tyX11_ok nmX11 C inX11_termOf_X11 hK hP hD hS 0 rfl rfl 42 (by decide) rfl LX11_termOf_277 rfl (by decide +kernel) (by decide +kernel) rfl (Nat.le_of_ble_eq_true rfl) dX11_termOf_99 (mwS_v42 hs9) (fun H locs hP hD hS => ?_)
          refine lv_iconst (v := 0) hx hb dX11_termOf_102 (by decide) ?_
          exact q_iret C hr hlocks hK hP hD hS (Nat.le_of_ble_eq_true rfl) (Nat.le_of_ble_eq_true rfl) dX11_termOf_103 (by cases hB; exact ⟨rfl, rfl⟩)
    · have hB := if_n hB c3
      refine lv_aload_n hx hb dX11_termOf_26 rfl (lv_at hl 1 rfl) ?_
      refine q_get (v := .ref (a 41)) C inX11_termOf_X11 hK hP 0 rfl rfl 41 (by decide) rfl LX11_termOf_95 rfl dX11_termOf_27 ?_
      refine lv_iload_n hx hb dX11_termOf_30 rfl (lv_at hl 3 rfl) ?_
      refine lv_iload hx hb dX11_termOf_31 (lv_at hl 0 rfl) ?_
      refine lv_if_ne (tgt := 46) hx hb dX11_termOf_33 (by decide) (fun c10 => ?_) (fun c10 => ?_)
      · have hB := if_n hB c10
        refine lv_aload_n hx hb dX11_termOf_46 rfl (lv_at hl 1 rfl) ?_
        refine q_get (v := .ref (a 40)) C inX11_termOf_X11 hK hP 0 rfl rfl 40 (by decide) rfl LX11_termOf_92 rfl dX11_termOf_47 ?_
        refine lv_aload_n hx hb dX11_termOf_50 rfl (lv_at hl 1 rfl) ?_
        refine q_get (v := .ref (a 37)) C inX11_termOf_X11 hK hP 0 rfl rfl 37 (by decide) rfl LX11_termOf_86 rfl dX11_termOf_51 ?_
        refine lv_iload hx hb dX11_termOf_54 (lv_at hl 4 rfl) ?_
        obtain ⟨g11, hB⟩ := guard_inv hB
        refine q_iald (x := (s.f 37 (Int32.toNatClampNeg x4))) C hK hP 23 1 rfl rfl (vpb_in g11) dX11_termOf_56 rfl ?_
        obtain ⟨g12, hB⟩ := guard_inv hB
        refine q_iald (x := (s.f 40 (Int32.toNatClampNeg (s.f 37 (Int32.toNatClampNeg x4))))) C hK hP 25 1 rfl rfl (vpb_in g12) dX11_termOf_57 rfl ?_
        exact br_termOf_58 (hk5) _ _ _ _ _ _ hB p e s0 m below meth c A E H locs ls hP hD hS (lv_sub hl [1, 2, 3, 4] rfl)
      · have hB := if_p hB c10
        refine lv_aload_n hx hb dX11_termOf_36 rfl (lv_at hl 1 rfl) ?_
        refine q_get (v := .ref (a 37)) C inX11_termOf_X11 hK hP 0 rfl rfl 37 (by decide) rfl LX11_termOf_86 rfl dX11_termOf_37 ?_
        refine lv_iload hx hb dX11_termOf_40 (lv_at hl 4 rfl) ?_
        obtain ⟨g13, hB⟩ := guard_inv hB
        refine q_iald (x := (s.f 37 (Int32.toNatClampNeg x4))) C hK hP 23 1 rfl rfl (vpb_in g13) dX11_termOf_42 rfl ?_
        refine lv_goto (tgt := 58) hx hb dX11_termOf_43 (by decide) ?_
        exact br_termOf_58 (hk5) _ _ _ _ _ _ hB p e s0 m below meth c A E H locs ls hP hD hS (lv_sub hl [1, 2, 3, 4] rfl)
theorem br_termOf_5L {l : Launch} {dC : Nat → ClassId} {dI : Nat → Nat → Nat} {cB cI cJ cZ cS : ClassId} {h : Nat} {a : Nat → Nat} {as : List Value} {r : Int32} {s' : RS} : ∀ (n : Nat) (s : RS) (x2 : Int32) (x3 : Int32) (x4 : Int32), r_termOf_5L n s x2 x3 x4 = some (r, s') → BlkI l yX11_termOf wsX11_termOf ({ frames := 0, cells := 0, slots := 0, locals := 0 }) cX11_termOf 8 (some .int) (dC, dI) (tysA cB cI cJ cZ cS) as 5 (mwS cB cI cJ cZ h a s) [(0, .ref h), (2, .int x2), (3, .int x3), (4, .int x4)] [] (fun x u => x = r ∧ u = (mwS cB cI cJ cZ h a s')) := by
  intro n
  induction n with
  | zero => intro s x2 x3 x4 hB; exact none_ne hB
  | succ n ih => intro s x2 x3 x4 hB; exact br_termOf_5 ih _ _ _ _ hB
set_option maxHeartbeats 4000000 in
set_option maxRecDepth 100000 in
theorem br_termOf {l : Launch} {dC : Nat → ClassId} {dI : Nat → Nat → Nat} {cB cI cJ cZ cS : ClassId} {h : Nat} {a : Nat → Nat} {as : List Value} {r : Int32} {s' : RS} (s : RS) (x1 : Int32) (x2 : Int32) (hB : r_termOf s x1 x2 = some (r, s')) : BlkI l yX11_termOf wsX11_termOf ({ frames := 0, cells := 0, slots := 0, locals := 0 }) cX11_termOf 8 (some .int) (dC, dI) (tysA cB cI cJ cZ cS) as 0 (mwS cB cI cJ cZ h a s) [(0, .ref h), (1, .int x1), (2, .int x2)] [] (fun x u => x = r ∧ u = (mwS cB cI cJ cZ h a s')) := by
  intro p e s0 m below meth c A E H locs ls hP hD hS hl
  obtain ⟨C, hr, hlocks, hA, hK, hN⟩ := id E
  obtain ⟨hx, hb, hml, hown, hts⟩ := id C
  unfold r_termOf at hB
  refine lv_iconst (v := 0) hx hb dX11_termOf_0 (by decide) ?_
  refine lv_istore_n (lv' := [(3, .int 0), (0, .ref h), (1, .int x1), (2, .int x2)]) hx hb dX11_termOf_1 rfl hl (by decide) rfl (fun ls hl => ?_)
  refine lv_iload_n hx hb dX11_termOf_2 rfl (lv_at hl 2 rfl) ?_
  refine lv_istore (lv' := [(4, .int x1), (3, .int 0), (0, .ref h), (1, .int x1), (2, .int x2)]) hx hb dX11_termOf_3 hl (by decide) rfl (fun ls hl => ?_)
  exact br_termOf_5L fu _ _ _ _ hB p e s0 m below meth c A E H locs ls hP hD hS (lv_sub hl [2, 4, 1, 0] rfl)
theorem cr_termOf {l : Launch} {dC : Nat → ClassId} {dI : Nat → Nat → Nat} {cB cI cJ cZ cS : ClassId} {h : Nat} {a : Nat → Nat} {r : Int32} {s' : RS} {s : RS} {x1 : Int32} {x2 : Int32} (hB : r_termOf s x1 x2 = some (r, s')) : CI l yX11_termOf wsX11_termOf ({ frames := 0, cells := 0, slots := 0, locals := 0 }) (dC, dI) (tysA cB cI cJ cZ cS) (mwS cB cI cJ cZ h a s) [.ref h, .int x1, .int x2] (fun x u => x = r ∧ u = (mwS cB cI cJ cZ h a s')) :=
  CI_of (cc := cX11_termOf) (maxL := 8) (ret := (some .int)) (by decide) rfl (Nat.le_of_ble_eq_true rfl) (br_termOf _ _ _ hB)
set_option maxHeartbeats 4000000 in
set_option maxRecDepth 100000 in
theorem br_in {l : Launch} {dC : Nat → ClassId} {dI : Nat → Nat → Nat} {cB cI cJ cZ cS : ClassId} {as : List Value} {r : Int32} (x0 : Int32) (x1 : Int32) (x2 : Int32) (hB : r_in x0 x1 x2 = some r) : BlkI l yX11_in wsX11_in ({ frames := 0, cells := 0, slots := 0, locals := 0 }) cX11_in 3 (some .boolean) (dC, dI) (tysA cB cI cJ cZ cS) as 0 [] [(0, .int x0), (1, .int x1), (2, .int x2)] [] (fun x _ => x = r) := by
  intro p e s0 m below meth c A E H locs ls hP hD hS hl
  obtain ⟨C, hr, hlocks, hA, hK, hN⟩ := id E
  obtain ⟨hx, hb, hml, hown, hts⟩ := id C
  unfold r_in at hB
  refine lv_iload_n hx hb dX11_in_0 rfl (lv_at hl 0 rfl) ?_
  refine lv_iload_n hx hb dX11_in_1 rfl (lv_at hl 1 rfl) ?_
  refine lv_icmp_lt (tgt := 14) hx hb dX11_in_2 (by decide) (fun c1 => ?_) (fun c1 => ?_)
  · have hB := if_p hB c1
    refine lv_iconst (v := 0) hx hb dX11_in_14 (by decide) ?_
    exact q_zret C hr hlocks (Or.inl rfl) hK hP hD hS (Nat.le_of_ble_eq_true rfl) (Nat.le_of_ble_eq_true rfl) dX11_in_15 (by cases hB; rfl)
  · have hB := if_n hB c1
    refine lv_iload_n hx hb dX11_in_5 rfl (lv_at hl 0 rfl) ?_
    refine lv_iload_n hx hb dX11_in_6 rfl (lv_at hl 2 rfl) ?_
    refine lv_icmp_gt (tgt := 14) hx hb dX11_in_7 (by decide) (fun c2 => ?_) (fun c2 => ?_)
    · have hB := if_p hB c2
      refine lv_iconst (v := 0) hx hb dX11_in_14 (by decide) ?_
      exact q_zret C hr hlocks (Or.inl rfl) hK hP hD hS (Nat.le_of_ble_eq_true rfl) (Nat.le_of_ble_eq_true rfl) dX11_in_15 (by cases hB; rfl)
    · have hB := if_n hB c2
      refine lv_iconst (v := 1) hx hb dX11_in_10 (by decide) ?_
      refine lv_goto (tgt := 15) hx hb dX11_in_11 (by decide) ?_
      exact q_zret C hr hlocks (Or.inr rfl) hK hP hD hS (Nat.le_of_ble_eq_true rfl) (Nat.le_of_ble_eq_true rfl) dX11_in_15 (by cases hB; rfl)
theorem cr_in {l : Launch} {dC : Nat → ClassId} {dI : Nat → Nat → Nat} {cB cI cJ cZ cS : ClassId} {r : Int32} {x0 : Int32} {x1 : Int32} {x2 : Int32} (hB : r_in x0 x1 x2 = some r) : CI l yX11_in wsX11_in ({ frames := 0, cells := 0, slots := 0, locals := 0 }) (dC, dI) (tysA cB cI cJ cZ cS) [] [.int x0, .int x1, .int x2] (fun x _ => x = r) :=
  CI_of (cc := cX11_in) (maxL := 3) (ret := (some .boolean)) (by decide) rfl (Nat.le_of_ble_eq_true rfl) (br_in _ _ _ hB)
set_option maxHeartbeats 4000000 in
set_option maxRecDepth 100000 in
theorem br_within {l : Launch} {dC : Nat → ClassId} {dI : Nat → Nat → Nat} {cB cI cJ cZ cS : ClassId} {as : List Value} {r : Int32} (x0 : Int32) (x1 : Int32) (x2 : Int32) (hB : r_within x0 x1 x2 = some r) : BlkI l yX11_within wsX11_within ({ frames := 0, cells := 0, slots := 0, locals := 0 }) cX11_within 3 (some .int) (dC, dI) (tysA cB cI cJ cZ cS) as 0 [] [(0, .int x0), (1, .int x1), (2, .int x2)] [] (fun x _ => x = r) := by
  intro p e s0 m below meth c A E H locs ls hP hD hS hl
  obtain ⟨C, hr, hlocks, hA, hK, hN⟩ := id E
  obtain ⟨hx, hb, hml, hown, hts⟩ := id C
  unfold r_within at hB
  refine lv_iload_n hx hb dX11_within_0 rfl (lv_at hl 0 rfl) ?_
  refine lv_iload_n hx hb dX11_within_1 rfl (lv_at hl 1 rfl) ?_
  refine lv_icmp_ge (tgt := 9) hx hb dX11_within_2 (by decide) (fun c1 => ?_) (fun c1 => ?_)
  · have hB := if_p hB c1
    refine lv_iload_n hx hb dX11_within_9 rfl (lv_at hl 0 rfl) ?_
    refine lv_iload_n hx hb dX11_within_10 rfl (lv_at hl 2 rfl) ?_
    refine lv_icmp_le (tgt := 18) hx hb dX11_within_11 (by decide) (fun c2 => ?_) (fun c2 => ?_)
    · have hB := if_p hB c2
      refine lv_iload_n hx hb dX11_within_18 rfl (lv_at hl 0 rfl) ?_
      exact q_iret C hr hlocks hK hP hD hS (Nat.le_of_ble_eq_true rfl) (Nat.le_of_ble_eq_true rfl) dX11_within_19 (by cases hB; rfl)
    · have hB := if_n hB c2
      refine lv_iload_n hx hb dX11_within_14 rfl (lv_at hl 2 rfl) ?_
      refine lv_goto (tgt := 19) hx hb dX11_within_15 (by decide) ?_
      exact q_iret C hr hlocks hK hP hD hS (Nat.le_of_ble_eq_true rfl) (Nat.le_of_ble_eq_true rfl) dX11_within_19 (by cases hB; rfl)
  · have hB := if_n hB c1
    refine lv_iload_n hx hb dX11_within_5 rfl (lv_at hl 1 rfl) ?_
    refine lv_goto (tgt := 19) hx hb dX11_within_6 (by decide) ?_
    exact q_iret C hr hlocks hK hP hD hS (Nat.le_of_ble_eq_true rfl) (Nat.le_of_ble_eq_true rfl) dX11_within_19 (by cases hB; rfl)
theorem cr_within {l : Launch} {dC : Nat → ClassId} {dI : Nat → Nat → Nat} {cB cI cJ cZ cS : ClassId} {r : Int32} {x0 : Int32} {x1 : Int32} {x2 : Int32} (hB : r_within x0 x1 x2 = some r) : CI l yX11_within wsX11_within ({ frames := 0, cells := 0, slots := 0, locals := 0 }) (dC, dI) (tysA cB cI cJ cZ cS) [] [.int x0, .int x1, .int x2] (fun x _ => x = r) :=
  CI_of (cc := cX11_within) (maxL := 3) (ret := (some .int)) (by decide) rfl (Nat.le_of_ble_eq_true rfl) (br_within _ _ _ hB)
set_option maxHeartbeats 4000000 in
set_option maxRecDepth 100000 in
theorem br_bits_4 {l : Launch} {dC : Nat → ClassId} {dI : Nat → Nat → Nat} {cB cI cJ cZ cS : ClassId} {as : List Value} {r : Int32} {k4 : Int32 → Int32 → Int32 → Option Int32} (hk4 : ∀ (x0 : Int32) (x1 : Int32) (x2 : Int32), k4 x0 x1 x2 = some r → BlkI l yX11_bits wsX11_bits ({ frames := 0, cells := 0, slots := 0, locals := 0 }) cX11_bits 3 (some .int) (dC, dI) (tysA cB cI cJ cZ cS) as 4 [] [(0, .int x0), (1, .int x1), (2, .int x2)] [] (fun x _ => x = r)) (x0 : Int32) (x1 : Int32) (x2 : Int32) (hB : r_bits_4 k4 x0 x1 x2 = some r) : BlkI l yX11_bits wsX11_bits ({ frames := 0, cells := 0, slots := 0, locals := 0 }) cX11_bits 3 (some .int) (dC, dI) (tysA cB cI cJ cZ cS) as 4 [] [(0, .int x0), (1, .int x1), (2, .int x2)] [] (fun x _ => x = r) := by
  intro p e s0 m below meth c A E H locs ls hP hD hS hl
  obtain ⟨C, hr, hlocks, hA, hK, hN⟩ := id E
  obtain ⟨hx, hb, hml, hown, hts⟩ := id C
  unfold r_bits_4 at hB
  refine lv_iload_n hx hb dX11_bits_4 rfl (lv_at hl 2 rfl) ?_
  refine lv_bipush (v := 6) hx hb dX11_bits_5 (by decide) ?_
  refine lv_icmp_ge (tgt := 24) hx hb dX11_bits_7 (by decide) (fun c1 => ?_) (fun c1 => ?_)
  · have hB := if_p hB c1
    refine lv_iload_n hx hb dX11_bits_24 rfl (lv_at hl 1 rfl) ?_
    exact q_iret C hr hlocks hK hP hD hS (Nat.le_of_ble_eq_true rfl) (Nat.le_of_ble_eq_true rfl) dX11_bits_25 (by cases hB; rfl)
  · have hB := if_n hB c1
    refine lv_iload_n hx hb dX11_bits_10 rfl (lv_at hl 1 rfl) ?_
    refine lv_iload_n hx hb dX11_bits_11 rfl (lv_at hl 0 rfl) ?_
    refine lv_iload_n hx hb dX11_bits_12 rfl (lv_at hl 2 rfl) ?_
    refine lv_ishr hx hb dX11_bits_13 ?_
    refine lv_iconst (v := 1) hx hb dX11_bits_14 (by decide) ?_
    refine lv_iand hx hb dX11_bits_15 ?_
    refine lv_iadd hx hb dX11_bits_16 ?_
    refine lv_istore_n (lv' := [(1, .int (x1 + ((x0 >>> (x2 &&& 31)) &&& 1))), (0, .int x0), (2, .int x2)]) hx hb dX11_bits_17 rfl hl (by decide) rfl (fun ls hl => ?_)
    refine lv_iinc (v := (x2 + 1)) (lv' := [(2, .int (x2 + 1)), (1, .int (x1 + ((x0 >>> (x2 &&& 31)) &&& 1))), (0, .int x0)]) hx hb dX11_bits_18 hl (k := 2) rfl (rfl) (by decide) rfl (fun ls hl => ?_)
    refine lv_goto (tgt := 4) hx hb dX11_bits_21 (by decide) ?_
    exact hk4 _ _ _ hB p e s0 m below meth c A E H locs ls hP hD hS (lv_sub hl [2, 1, 0] rfl)
theorem br_bits_4L {l : Launch} {dC : Nat → ClassId} {dI : Nat → Nat → Nat} {cB cI cJ cZ cS : ClassId} {as : List Value} {r : Int32} : ∀ (n : Nat) (x0 : Int32) (x1 : Int32) (x2 : Int32), r_bits_4L n x0 x1 x2 = some r → BlkI l yX11_bits wsX11_bits ({ frames := 0, cells := 0, slots := 0, locals := 0 }) cX11_bits 3 (some .int) (dC, dI) (tysA cB cI cJ cZ cS) as 4 [] [(0, .int x0), (1, .int x1), (2, .int x2)] [] (fun x _ => x = r) := by
  intro n
  induction n with
  | zero => intro x0 x1 x2 hB; exact none_ne hB
  | succ n ih => intro x0 x1 x2 hB; exact br_bits_4 ih _ _ _ hB
set_option maxHeartbeats 4000000 in
set_option maxRecDepth 100000 in
theorem br_bits {l : Launch} {dC : Nat → ClassId} {dI : Nat → Nat → Nat} {cB cI cJ cZ cS : ClassId} {as : List Value} {r : Int32} (x0 : Int32) (hB : r_bits x0 = some r) : BlkI l yX11_bits wsX11_bits ({ frames := 0, cells := 0, slots := 0, locals := 0 }) cX11_bits 3 (some .int) (dC, dI) (tysA cB cI cJ cZ cS) as 0 [] [(0, .int x0)] [] (fun x _ => x = r) := by
  intro p e s0 m below meth c A E H locs ls hP hD hS hl
  obtain ⟨C, hr, hlocks, hA, hK, hN⟩ := id E
  obtain ⟨hx, hb, hml, hown, hts⟩ := id C
  unfold r_bits at hB
  refine lv_iconst (v := 0) hx hb dX11_bits_0 (by decide) ?_
  refine lv_istore_n (lv' := [(1, .int 0), (0, .int x0)]) hx hb dX11_bits_1 rfl hl (by decide) rfl (fun ls hl => ?_)
  refine lv_iconst (v := 0) hx hb dX11_bits_2 (by decide) ?_
  refine lv_istore_n (lv' := [(2, .int 0), (1, .int 0), (0, .int x0)]) hx hb dX11_bits_3 rfl hl (by decide) rfl (fun ls hl => ?_)
  exact br_bits_4L fu _ _ _ hB p e s0 m below meth c A E H locs ls hP hD hS (lv_sub hl [2, 1, 0] rfl)
theorem cr_bits {l : Launch} {dC : Nat → ClassId} {dI : Nat → Nat → Nat} {cB cI cJ cZ cS : ClassId} {r : Int32} {x0 : Int32} (hB : r_bits x0 = some r) : CI l yX11_bits wsX11_bits ({ frames := 0, cells := 0, slots := 0, locals := 0 }) (dC, dI) (tysA cB cI cJ cZ cS) [] [.int x0] (fun x _ => x = r) :=
  CI_of (cc := cX11_bits) (maxL := 3) (ret := (some .int)) (by decide) rfl (Nat.le_of_ble_eq_true rfl) (br_bits _ hB)
