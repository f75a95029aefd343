section
theorem ggX11_read_X11_cut : GoodIn wsX11_read wsX11_cut := gi_sub (fun w h => List.mem_cons_of_mem _ (List.mem_append_left _ (List.mem_append_right _ (List.mem_append_left _ h)))) gd_wsX11_cut
set_option maxRecDepth 20000 in
theorem gX11_read_X11_cut : GoodIn wsX11_read (wsV RX11 209 RX11 yX11_cut wsX11_cut) := goodIn_app (goodIn_r _ [19, 20, 21, 22] (by decide +kernel) (by decide +kernel)) ggX11_read_X11_cut
theorem ggX11_read_X11_plain : GoodIn wsX11_read wsX11_plain := gi_sub (fun w h => List.mem_cons_of_mem _ (List.mem_append_left _ (List.mem_append_right _ (List.mem_append_right _ (List.mem_append_left _ h))))) gd_wsX11_plain
set_option maxRecDepth 20000 in
theorem gX11_read_X11_plain : GoodIn wsX11_read (wsV RX11 134 RX11 yX11_plain wsX11_plain) := goodIn_app (goodIn_r _ [23, 24, 25, 22] (by decide +kernel) (by decide +kernel)) ggX11_read_X11_plain
theorem ggX11_read_X11_is : GoodIn wsX11_read wsX11_is := gi_sub (fun w h => List.mem_cons_of_mem _ (List.mem_append_left _ (List.mem_append_right _ (List.mem_append_right _ (List.mem_append_right _ (List.mem_append_left _ h)))))) gd_wsX11_is
set_option maxRecDepth 20000 in
theorem gX11_read_X11_is : GoodIn wsX11_read (wsV RX11 203 RX11 yX11_is wsX11_is) := goodIn_app (goodIn_r _ [26, 27, 28, 22] (by decide +kernel) (by decide +kernel)) ggX11_read_X11_is
theorem ggX11_read_X11_tellOne : GoodIn wsX11_read wsX11_tellOne := gi_sub (fun w h => List.mem_cons_of_mem _ (List.mem_append_left _ (List.mem_append_right _ (List.mem_append_right _ (List.mem_append_right _ (List.mem_append_right _ (List.mem_append_left _ h))))))) gd_wsX11_tellOne
set_option maxRecDepth 20000 in
theorem gX11_read_X11_tellOne : GoodIn wsX11_read (wsV RX11 227 RX11 yX11_tellOne wsX11_tellOne) := goodIn_app (goodIn_r _ [29, 30, 31, 22] (by decide +kernel) (by decide +kernel)) ggX11_read_X11_tellOne
theorem ggX11_read_X11_begins : GoodIn wsX11_read wsX11_begins := gi_sub (fun w h => List.mem_cons_of_mem _ (List.mem_append_left _ (List.mem_append_right _ (List.mem_append_right _ (List.mem_append_right _ (List.mem_append_right _ (List.mem_append_right _ (List.mem_append_left _ h)))))))) gd_wsX11_begins
set_option maxRecDepth 20000 in
theorem gX11_read_X11_begins : GoodIn wsX11_read (wsV RX11 142 RX11 yX11_begins wsX11_begins) := goodIn_app (goodIn_r _ [32, 33, 34, 22] (by decide +kernel) (by decide +kernel)) ggX11_read_X11_begins
theorem ggX11_read_X11_keepsRow : GoodIn wsX11_read wsX11_keepsRow := gi_sub (fun w h => List.mem_cons_of_mem _ (List.mem_append_left _ (List.mem_append_right _ (List.mem_append_right _ (List.mem_append_right _ (List.mem_append_right _ (List.mem_append_right _ (List.mem_append_right _ h)))))))) gd_wsX11_keepsRow
set_option maxRecDepth 20000 in
theorem gX11_read_X11_keepsRow : GoodIn wsX11_read (wsV RX11 145 RX11 yX11_keepsRow wsX11_keepsRow) := goodIn_app (goodIn_r _ [35, 36, 37, 22] (by decide +kernel) (by decide +kernel)) ggX11_read_X11_keepsRow
theorem dX11_read_0 : decode cX11_read 0 = .ok (.aload_n 0, 1) := dc1_42 (by decide +kernel)
theorem dX11_read_1 : decode cX11_read 1 = .ok (.aload_n 0, 1) := dc1_42 (by decide +kernel)
theorem dX11_read_2 : decode cX11_read 2 = .ok (.getfield 148, 3) := dcw_180 (by decide +kernel)
theorem dX11_read_5 : decode cX11_read 5 = .ok (.putfield 154, 3) := dcw_181 (by decide +kernel)
theorem dX11_read_8 : decode cX11_read 8 = .ok (.iconst 0, 1) := dc1_3 (by decide +kernel)
theorem dX11_read_9 : decode cX11_read 9 = .ok (.istore_n 1, 1) := dc1_60 (by decide +kernel)
theorem dX11_read_10 : decode cX11_read 10 = .ok (.iload_n 1, 1) := dc1_27 (by decide +kernel)
theorem dX11_read_11 : decode cX11_read 11 = .ok (.aload_n 0, 1) := dc1_42 (by decide +kernel)
theorem dX11_read_12 : decode cX11_read 12 = .ok (.getfield 154, 3) := dcw_180 (by decide +kernel)
theorem dX11_read_15 : decode cX11_read 15 = .ok (.if_icmp .ge 21, 3) := dcs_162 (n := 21) (by decide +kernel)
theorem dX11_read_18 : decode cX11_read 18 = .ok (.aload_n 0, 1) := dc1_42 (by decide +kernel)
theorem dX11_read_19 : decode cX11_read 19 = .ok (.getfield 17, 3) := dcw_180 (by decide +kernel)
theorem dX11_read_22 : decode cX11_read 22 = .ok (.iload_n 1, 1) := dc1_27 (by decide +kernel)
theorem dX11_read_23 : decode cX11_read 23 = .ok (.aload_n 0, 1) := dc1_42 (by decide +kernel)
theorem dX11_read_24 : decode cX11_read 24 = .ok (.getfield 13, 3) := dcw_180 (by decide +kernel)
theorem dX11_read_27 : decode cX11_read 27 = .ok (.iload_n 1, 1) := dc1_27 (by decide +kernel)
theorem dX11_read_28 : decode cX11_read 28 = .ok (.baload, 1) := dc1_51 (by decide +kernel)
theorem dX11_read_29 : decode cX11_read 29 = .ok (.bastore, 1) := dc1_84 (by decide +kernel)
theorem dX11_read_30 : decode cX11_read 30 = .ok (.iinc 1 1, 3) := dc_iinc (m := 1) (by decide +kernel)
theorem dX11_read_33 : decode cX11_read 33 = .ok (.goto (-23), 3) := dcs_167 (n := 65513) (by decide +kernel)
theorem dX11_read_36 : decode cX11_read 36 = .ok (.aload_n 0, 1) := dc1_42 (by decide +kernel)
theorem dX11_read_37 : decode cX11_read 37 = .ok (.iconst 0, 1) := dc1_3 (by decide +kernel)
theorem dX11_read_38 : decode cX11_read 38 = .ok (.putfield 148, 3) := dcw_181 (by decide +kernel)
theorem dX11_read_41 : decode cX11_read 41 = .ok (.aload_n 0, 1) := dc1_42 (by decide +kernel)
theorem dX11_read_42 : decode cX11_read 42 = .ok (.invokevirtual 209, 3) := dcw_182 (by decide +kernel)
theorem dX11_read_45 : decode cX11_read 45 = .ok (.aload_n 0, 1) := dc1_42 (by decide +kernel)
theorem dX11_read_46 : decode cX11_read 46 = .ok (.iconst 0, 1) := dc1_3 (by decide +kernel)
theorem dX11_read_47 : decode cX11_read 47 = .ok (.putfield 188, 3) := dcw_181 (by decide +kernel)
theorem dX11_read_50 : decode cX11_read 50 = .ok (.aload_n 0, 1) := dc1_42 (by decide +kernel)
theorem dX11_read_51 : decode cX11_read 51 = .ok (.iconst 0, 1) := dc1_3 (by decide +kernel)
theorem dX11_read_52 : decode cX11_read 52 = .ok (.putfield 212, 3) := dcw_181 (by decide +kernel)
theorem dX11_read_55 : decode cX11_read 55 = .ok (.aload_n 0, 1) := dc1_42 (by decide +kernel)
theorem dX11_read_56 : decode cX11_read 56 = .ok (.iconst 0, 1) := dc1_3 (by decide +kernel)
theorem dX11_read_57 : decode cX11_read 57 = .ok (.putfield 185, 3) := dcw_181 (by decide +kernel)
theorem dX11_read_60 : decode cX11_read 60 = .ok (.aload_n 0, 1) := dc1_42 (by decide +kernel)
theorem dX11_read_61 : decode cX11_read 61 = .ok (.iconst 0, 1) := dc1_3 (by decide +kernel)
theorem dX11_read_62 : decode cX11_read 62 = .ok (.putfield 194, 3) := dcw_181 (by decide +kernel)
theorem dX11_read_65 : decode cX11_read 65 = .ok (.aload_n 0, 1) := dc1_42 (by decide +kernel)
theorem dX11_read_66 : decode cX11_read 66 = .ok (.iconst 1, 1) := dc1_4 (by decide +kernel)
theorem dX11_read_67 : decode cX11_read 67 = .ok (.aload_n 0, 1) := dc1_42 (by decide +kernel)
theorem dX11_read_68 : decode cX11_read 68 = .ok (.getfield 215, 3) := dcw_180 (by decide +kernel)
theorem dX11_read_71 : decode cX11_read 71 = .ok (.isub, 1) := dc1_100 (by decide +kernel)
theorem dX11_read_72 : decode cX11_read 72 = .ok (.putfield 218, 3) := dcw_181 (by decide +kernel)
theorem dX11_read_75 : decode cX11_read 75 = .ok (.aload_n 0, 1) := dc1_42 (by decide +kernel)
theorem dX11_read_76 : decode cX11_read 76 = .ok (.aload_n 0, 1) := dc1_42 (by decide +kernel)
theorem dX11_read_77 : decode cX11_read 77 = .ok (.getfield 218, 3) := dcw_180 (by decide +kernel)
theorem dX11_read_80 : decode cX11_read 80 = .ok (.invokevirtual 134, 3) := dcw_182 (by decide +kernel)
theorem dX11_read_83 : decode cX11_read 83 = .ok (.aload_n 0, 1) := dc1_42 (by decide +kernel)
theorem dX11_read_84 : decode cX11_read 84 = .ok (.sipush 130, 3) := dcs_17 (n := 130) (by decide +kernel)
theorem dX11_read_87 : decode cX11_read 87 = .ok (.aload_n 0, 1) := dc1_42 (by decide +kernel)
theorem dX11_read_88 : decode cX11_read 88 = .ok (.getfield 218, 3) := dcw_180 (by decide +kernel)
theorem dX11_read_91 : decode cX11_read 91 = .ok (.imul, 1) := dc1_104 (by decide +kernel)
theorem dX11_read_92 : decode cX11_read 92 = .ok (.putfield 221, 3) := dcw_181 (by decide +kernel)
theorem dX11_read_95 : decode cX11_read 95 = .ok (.aload_n 0, 1) := dc1_42 (by decide +kernel)
theorem dX11_read_96 : decode cX11_read 96 = .ok (.sipush 420, 3) := dcs_17 (n := 420) (by decide +kernel)
theorem dX11_read_99 : decode cX11_read 99 = .ok (.aload_n 0, 1) := dc1_42 (by decide +kernel)
theorem dX11_read_100 : decode cX11_read 100 = .ok (.getfield 218, 3) := dcw_180 (by decide +kernel)
theorem dX11_read_103 : decode cX11_read 103 = .ok (.imul, 1) := dc1_104 (by decide +kernel)
theorem dX11_read_104 : decode cX11_read 104 = .ok (.putfield 224, 3) := dcw_181 (by decide +kernel)
theorem dX11_read_107 : decode cX11_read 107 = .ok (.aload_n 0, 1) := dc1_42 (by decide +kernel)
theorem dX11_read_108 : decode cX11_read 108 = .ok (.getfield 185, 3) := dcw_180 (by decide +kernel)
theorem dX11_read_111 : decode cX11_read 111 = .ok (.ifCond .ne 18, 3) := dcs_154 (n := 18) (by decide +kernel)
theorem dX11_read_114 : decode cX11_read 114 = .ok (.aload_n 0, 1) := dc1_42 (by decide +kernel)
theorem dX11_read_115 : decode cX11_read 115 = .ok (.iconst 0, 1) := dc1_3 (by decide +kernel)
theorem dX11_read_116 : decode cX11_read 116 = .ok (.invokevirtual 203, 3) := dcw_182 (by decide +kernel)
theorem dX11_read_119 : decode cX11_read 119 = .ok (.ifCond .ne 10, 3) := dcs_154 (n := 10) (by decide +kernel)
theorem dX11_read_122 : decode cX11_read 122 = .ok (.aload_n 0, 1) := dc1_42 (by decide +kernel)
theorem dX11_read_123 : decode cX11_read 123 = .ok (.invokevirtual 227, 3) := dcw_182 (by decide +kernel)
theorem dX11_read_126 : decode cX11_read 126 = .ok (.goto (-19), 3) := dcs_167 (n := 65517) (by decide +kernel)
theorem dX11_read_129 : decode cX11_read 129 = .ok (.aload_n 0, 1) := dc1_42 (by decide +kernel)
theorem dX11_read_130 : decode cX11_read 130 = .ok (.aload_n 0, 1) := dc1_42 (by decide +kernel)
theorem dX11_read_131 : decode cX11_read 131 = .ok (.getfield 185, 3) := dcw_180 (by decide +kernel)
theorem dX11_read_134 : decode cX11_read 134 = .ok (.ifCond .le 10, 3) := dcs_158 (n := 10) (by decide +kernel)
theorem dX11_read_137 : decode cX11_read 137 = .ok (.aload_n 0, 1) := dc1_42 (by decide +kernel)
theorem dX11_read_138 : decode cX11_read 138 = .ok (.getfield 191, 3) := dcw_180 (by decide +kernel)
theorem dX11_read_141 : decode cX11_read 141 = .ok (.goto 18, 3) := dcs_167 (n := 18) (by decide +kernel)
theorem dX11_read_144 : decode cX11_read 144 = .ok (.aload_n 0, 1) := dc1_42 (by decide +kernel)
theorem dX11_read_145 : decode cX11_read 145 = .ok (.getfield 194, 3) := dcw_180 (by decide +kernel)
theorem dX11_read_148 : decode cX11_read 148 = .ok (.ifCond .le 10, 3) := dcs_158 (n := 10) (by decide +kernel)
theorem dX11_read_151 : decode cX11_read 151 = .ok (.aload_n 0, 1) := dc1_42 (by decide +kernel)
theorem dX11_read_152 : decode cX11_read 152 = .ok (.getfield 197, 3) := dcw_180 (by decide +kernel)
theorem dX11_read_155 : decode cX11_read 155 = .ok (.goto 4, 3) := dcs_167 (n := 4) (by decide +kernel)
theorem dX11_read_158 : decode cX11_read 158 = .ok (.iconst (-1), 1) := dc1_2 (by decide +kernel)
theorem dX11_read_159 : decode cX11_read 159 = .ok (.putfield 37, 3) := dcw_181 (by decide +kernel)
theorem dX11_read_162 : decode cX11_read 162 = .ok (.aload_n 0, 1) := dc1_42 (by decide +kernel)
theorem dX11_read_163 : decode cX11_read 163 = .ok (.getfield 185, 3) := dcw_180 (by decide +kernel)
theorem dX11_read_166 : decode cX11_read 166 = .ok (.ifCond .le 8, 3) := dcs_158 (n := 8) (by decide +kernel)
theorem dX11_read_169 : decode cX11_read 169 = .ok (.aload_n 0, 1) := dc1_42 (by decide +kernel)
theorem dX11_read_170 : decode cX11_read 170 = .ok (.getfield 185, 3) := dcw_180 (by decide +kernel)
theorem dX11_read_173 : decode cX11_read 173 = .ok (.ireturn, 1) := dc1_172 (by decide +kernel)
theorem dX11_read_174 : decode cX11_read 174 = .ok (.aload_n 0, 1) := dc1_42 (by decide +kernel)
theorem dX11_read_175 : decode cX11_read 175 = .ok (.getfield 194, 3) := dcw_180 (by decide +kernel)
theorem dX11_read_178 : decode cX11_read 178 = .ok (.ifCond .le 8, 3) := dcs_158 (n := 8) (by decide +kernel)
theorem dX11_read_181 : decode cX11_read 181 = .ok (.aload_n 0, 1) := dc1_42 (by decide +kernel)
theorem dX11_read_182 : decode cX11_read 182 = .ok (.getfield 194, 3) := dcw_180 (by decide +kernel)
theorem dX11_read_185 : decode cX11_read 185 = .ok (.ireturn, 1) := dc1_172 (by decide +kernel)
theorem dX11_read_186 : decode cX11_read 186 = .ok (.aload_n 0, 1) := dc1_42 (by decide +kernel)
theorem dX11_read_187 : decode cX11_read 187 = .ok (.aload_n 0, 1) := dc1_42 (by decide +kernel)
theorem dX11_read_188 : decode cX11_read 188 = .ok (.getfield 218, 3) := dcw_180 (by decide +kernel)
theorem dX11_read_191 : decode cX11_read 191 = .ok (.putfield 215, 3) := dcw_181 (by decide +kernel)
theorem dX11_read_194 : decode cX11_read 194 = .ok (.aload_n 0, 1) := dc1_42 (by decide +kernel)
theorem dX11_read_195 : decode cX11_read 195 = .ok (.invokevirtual 142, 3) := dcw_182 (by decide +kernel)
theorem dX11_read_198 : decode cX11_read 198 = .ok (.aload_n 0, 1) := dc1_42 (by decide +kernel)
theorem dX11_read_199 : decode cX11_read 199 = .ok (.invokevirtual 145, 3) := dcw_182 (by decide +kernel)
theorem dX11_read_202 : decode cX11_read 202 = .ok (.aload_n 0, 1) := dc1_42 (by decide +kernel)
theorem dX11_read_203 : decode cX11_read 203 = .ok (.iconst 0, 1) := dc1_3 (by decide +kernel)
theorem dX11_read_204 : decode cX11_read 204 = .ok (.putfield 230, 3) := dcw_181 (by decide +kernel)
theorem dX11_read_207 : decode cX11_read 207 = .ok (.aload_n 0, 1) := dc1_42 (by decide +kernel)
theorem dX11_read_208 : decode cX11_read 208 = .ok (.iconst 0, 1) := dc1_3 (by decide +kernel)
theorem dX11_read_209 : decode cX11_read 209 = .ok (.putfield 233, 3) := dcw_181 (by decide +kernel)
theorem dX11_read_212 : decode cX11_read 212 = .ok (.iconst 0, 1) := dc1_3 (by decide +kernel)
theorem dX11_read_213 : decode cX11_read 213 = .ok (.istore_n 1, 1) := dc1_60 (by decide +kernel)
theorem dX11_read_214 : decode cX11_read 214 = .ok (.iload_n 1, 1) := dc1_27 (by decide +kernel)
theorem dX11_read_215 : decode cX11_read 215 = .ok (.iconst 3, 1) := dc1_6 (by decide +kernel)
theorem dX11_read_216 : decode cX11_read 216 = .ok (.if_icmp .ge 16, 3) := dcs_162 (n := 16) (by decide +kernel)
theorem dX11_read_219 : decode cX11_read 219 = .ok (.aload_n 0, 1) := dc1_42 (by decide +kernel)
theorem dX11_read_220 : decode cX11_read 220 = .ok (.getfield 128, 3) := dcw_180 (by decide +kernel)
theorem dX11_read_223 : decode cX11_read 223 = .ok (.iload_n 1, 1) := dc1_27 (by decide +kernel)
theorem dX11_read_224 : decode cX11_read 224 = .ok (.iconst 0, 1) := dc1_3 (by decide +kernel)
theorem dX11_read_225 : decode cX11_read 225 = .ok (.bastore, 1) := dc1_84 (by decide +kernel)
theorem dX11_read_226 : decode cX11_read 226 = .ok (.iinc 1 1, 3) := dc_iinc (m := 1) (by decide +kernel)
theorem dX11_read_229 : decode cX11_read 229 = .ok (.goto (-15), 3) := dcs_167 (n := 65521) (by decide +kernel)
theorem dX11_read_232 : decode cX11_read 232 = .ok (.iconst 0, 1) := dc1_3 (by decide +kernel)
theorem dX11_read_233 : decode cX11_read 233 = .ok (.ireturn, 1) := dc1_172 (by decide +kernel)
theorem dX11_place_0 : decode cX11_place 0 = .ok (.aload_n 0, 1) := dc1_42 (by decide +kernel)
theorem dX11_place_1 : decode cX11_place 1 = .ok (.getfield 37, 3) := dcw_180 (by decide +kernel)
theorem dX11_place_4 : decode cX11_place 4 = .ok (.ireturn, 1) := dc1_172 (by decide +kernel)
theorem dX11_termOf_0 : decode cX11_termOf 0 = .ok (.iconst 0, 1) := dc1_3 (by decide +kernel)
theorem dX11_termOf_1 : decode cX11_termOf 1 = .ok (.istore_n 3, 1) := dc1_62 (by decide +kernel)
theorem dX11_termOf_2 : decode cX11_termOf 2 = .ok (.iload_n 1, 1) := dc1_27 (by decide +kernel)
theorem dX11_termOf_3 : decode cX11_termOf 3 = .ok (.istore 4, 2) := dcu_54 (by decide +kernel)
theorem dX11_termOf_5 : decode cX11_termOf 5 = .ok (.iload 4, 2) := dcu_21 (by decide +kernel)
theorem dX11_termOf_7 : decode cX11_termOf 7 = .ok (.iload_n 2, 1) := dc1_28 (by decide +kernel)
theorem dX11_termOf_8 : decode cX11_termOf 8 = .ok (.if_icmp .ge 157, 3) := dcs_162 (n := 157) (by decide +kernel)
theorem dX11_termOf_11 : decode cX11_termOf 11 = .ok (.aload_n 0, 1) := dc1_42 (by decide +kernel)
theorem dX11_termOf_12 : decode cX11_termOf 12 = .ok (.getfield 83, 3) := dcw_180 (by decide +kernel)
theorem dX11_termOf_15 : decode cX11_termOf 15 = .ok (.iload 4, 2) := dcu_21 (by decide +kernel)
theorem dX11_termOf_17 : decode cX11_termOf 17 = .ok (.iaload, 1) := dc1_46 (by decide +kernel)
theorem dX11_termOf_18 : decode cX11_termOf 18 = .ok (.istore 5, 2) := dcu_54 (by decide +kernel)
theorem dX11_termOf_20 : decode cX11_termOf 20 = .ok (.iload 5, 2) := dcu_21 (by decide +kernel)
theorem dX11_termOf_22 : decode cX11_termOf 22 = .ok (.iconst 2, 1) := dc1_5 (by decide +kernel)
theorem dX11_termOf_23 : decode cX11_termOf 23 = .ok (.if_icmp .ge 42, 3) := dcs_162 (n := 42) (by decide +kernel)
theorem dX11_termOf_26 : decode cX11_termOf 26 = .ok (.aload_n 0, 1) := dc1_42 (by decide +kernel)
theorem dX11_termOf_27 : decode cX11_termOf 27 = .ok (.getfield 95, 3) := dcw_180 (by decide +kernel)
theorem dX11_termOf_30 : decode cX11_termOf 30 = .ok (.iload_n 3, 1) := dc1_29 (by decide +kernel)
theorem dX11_termOf_31 : decode cX11_termOf 31 = .ok (.iload 5, 2) := dcu_21 (by decide +kernel)
theorem dX11_termOf_33 : decode cX11_termOf 33 = .ok (.ifCond .ne 13, 3) := dcs_154 (n := 13) (by decide +kernel)
theorem dX11_termOf_36 : decode cX11_termOf 36 = .ok (.aload_n 0, 1) := dc1_42 (by decide +kernel)
theorem dX11_termOf_37 : decode cX11_termOf 37 = .ok (.getfield 86, 3) := dcw_180 (by decide +kernel)
theorem dX11_termOf_40 : decode cX11_termOf 40 = .ok (.iload 4, 2) := dcu_21 (by decide +kernel)
theorem dX11_termOf_42 : decode cX11_termOf 42 = .ok (.iaload, 1) := dc1_46 (by decide +kernel)
theorem dX11_termOf_43 : decode cX11_termOf 43 = .ok (.goto 15, 3) := dcs_167 (n := 15) (by decide +kernel)
theorem dX11_termOf_46 : decode cX11_termOf 46 = .ok (.aload_n 0, 1) := dc1_42 (by decide +kernel)
theorem dX11_termOf_47 : decode cX11_termOf 47 = .ok (.getfield 92, 3) := dcw_180 (by decide +kernel)
theorem dX11_termOf_50 : decode cX11_termOf 50 = .ok (.aload_n 0, 1) := dc1_42 (by decide +kernel)
theorem dX11_termOf_51 : decode cX11_termOf 51 = .ok (.getfield 86, 3) := dcw_180 (by decide +kernel)
theorem dX11_termOf_54 : decode cX11_termOf 54 = .ok (.iload 4, 2) := dcu_21 (by decide +kernel)
theorem dX11_termOf_56 : decode cX11_termOf 56 = .ok (.iaload, 1) := dc1_46 (by decide +kernel)
theorem dX11_termOf_57 : decode cX11_termOf 57 = .ok (.iaload, 1) := dc1_46 (by decide +kernel)
theorem dX11_termOf_58 : decode cX11_termOf 58 = .ok (.iastore, 1) := dc1_79 (by decide +kernel)
theorem dX11_termOf_59 : decode cX11_termOf 59 = .ok (.iinc 3 1, 3) := dc_iinc (m := 1) (by decide +kernel)
theorem dX11_termOf_62 : decode cX11_termOf 62 = .ok (.goto 97, 3) := dcs_167 (n := 97) (by decide +kernel)
theorem dX11_termOf_65 : decode cX11_termOf 65 = .ok (.iinc 3 (-1), 3) := dc_iinc (m := 255) (by decide +kernel)
theorem dX11_termOf_68 : decode cX11_termOf 68 = .ok (.aload_n 0, 1) := dc1_42 (by decide +kernel)
theorem dX11_termOf_69 : decode cX11_termOf 69 = .ok (.getfield 95, 3) := dcw_180 (by decide +kernel)
theorem dX11_termOf_72 : decode cX11_termOf 72 = .ok (.iload_n 3, 1) := dc1_29 (by decide +kernel)
theorem dX11_termOf_73 : decode cX11_termOf 73 = .ok (.iconst 1, 1) := dc1_4 (by decide +kernel)
theorem dX11_termOf_74 : decode cX11_termOf 74 = .ok (.isub, 1) := dc1_100 (by decide +kernel)
theorem dX11_termOf_75 : decode cX11_termOf 75 = .ok (.iaload, 1) := dc1_46 (by decide +kernel)
theorem dX11_termOf_76 : decode cX11_termOf 76 = .ok (.istore 6, 2) := dcu_54 (by decide +kernel)
theorem dX11_termOf_78 : decode cX11_termOf 78 = .ok (.aload_n 0, 1) := dc1_42 (by decide +kernel)
theorem dX11_termOf_79 : decode cX11_termOf 79 = .ok (.getfield 95, 3) := dcw_180 (by decide +kernel)
theorem dX11_termOf_82 : decode cX11_termOf 82 = .ok (.iload_n 3, 1) := dc1_29 (by decide +kernel)
theorem dX11_termOf_83 : decode cX11_termOf 83 = .ok (.iaload, 1) := dc1_46 (by decide +kernel)
theorem dX11_termOf_84 : decode cX11_termOf 84 = .ok (.istore 7, 2) := dcu_54 (by decide +kernel)
theorem dX11_termOf_86 : decode cX11_termOf 86 = .ok (.iload 5, 2) := dcu_21 (by decide +kernel)
theorem dX11_termOf_88 : decode cX11_termOf 88 = .ok (.iconst 5, 1) := dc1_8 (by decide +kernel)
theorem dX11_termOf_89 : decode cX11_termOf 89 = .ok (.if_icmp .ne 15, 3) := dcs_160 (n := 15) (by decide +kernel)
theorem dX11_termOf_92 : decode cX11_termOf 92 = .ok (.iload 7, 2) := dcu_21 (by decide +kernel)
theorem dX11_termOf_94 : decode cX11_termOf 94 = .ok (.ifCond .ne 10, 3) := dcs_154 (n := 10) (by decide +kernel)
theorem dX11_termOf_97 : decode cX11_termOf 97 = .ok (.aload_n 0, 1) := dc1_42 (by decide +kernel)
theorem dX11_termOf_98 : decode cX11_termOf 98 = .ok (.iconst 1, 1) := dc1_4 (by decide +kernel)
theorem dX11_termOf_99 : decode cX11_termOf 99 = .ok (.putfield 277, 3) := dcw_181 (by decide +kernel)
theorem dX11_termOf_102 : decode cX11_termOf 102 = .ok (.iconst 0, 1) := dc1_3 (by decide +kernel)
theorem dX11_termOf_103 : decode cX11_termOf 103 = .ok (.ireturn, 1) := dc1_172 (by decide +kernel)
theorem dX11_termOf_104 : decode cX11_termOf 104 = .ok (.aload_n 0, 1) := dc1_42 (by decide +kernel)
theorem dX11_termOf_105 : decode cX11_termOf 105 = .ok (.getfield 95, 3) := dcw_180 (by decide +kernel)
theorem dX11_termOf_108 : decode cX11_termOf 108 = .ok (.iload_n 3, 1) := dc1_29 (by decide +kernel)
theorem dX11_termOf_109 : decode cX11_termOf 109 = .ok (.iconst 1, 1) := dc1_4 (by decide +kernel)
theorem dX11_termOf_110 : decode cX11_termOf 110 = .ok (.isub, 1) := dc1_100 (by decide +kernel)
theorem dX11_termOf_111 : decode cX11_termOf 111 = .ok (.iload 5, 2) := dcu_21 (by decide +kernel)
theorem dX11_termOf_113 : decode cX11_termOf 113 = .ok (.iconst 2, 1) := dc1_5 (by decide +kernel)
theorem dX11_termOf_114 : decode cX11_termOf 114 = .ok (.if_icmp .ne 11, 3) := dcs_160 (n := 11) (by decide +kernel)
theorem dX11_termOf_117 : decode cX11_termOf 117 = .ok (.iload 6, 2) := dcu_21 (by decide +kernel)
theorem dX11_termOf_119 : decode cX11_termOf 119 = .ok (.iload 7, 2) := dcu_21 (by decide +kernel)
theorem dX11_termOf_121 : decode cX11_termOf 121 = .ok (.iadd, 1) := dc1_96 (by decide +kernel)
theorem dX11_termOf_122 : decode cX11_termOf 122 = .ok (.goto 36, 3) := dcs_167 (n := 36) (by decide +kernel)
theorem dX11_termOf_125 : decode cX11_termOf 125 = .ok (.iload 5, 2) := dcu_21 (by decide +kernel)
theorem dX11_termOf_127 : decode cX11_termOf 127 = .ok (.iconst 3, 1) := dc1_6 (by decide +kernel)
theorem dX11_termOf_128 : decode cX11_termOf 128 = .ok (.if_icmp .ne 11, 3) := dcs_160 (n := 11) (by decide +kernel)
theorem dX11_termOf_131 : decode cX11_termOf 131 = .ok (.iload 6, 2) := dcu_21 (by decide +kernel)
theorem dX11_termOf_133 : decode cX11_termOf 133 = .ok (.iload 7, 2) := dcu_21 (by decide +kernel)
theorem dX11_termOf_135 : decode cX11_termOf 135 = .ok (.isub, 1) := dc1_100 (by decide +kernel)
theorem dX11_termOf_136 : decode cX11_termOf 136 = .ok (.goto 22, 3) := dcs_167 (n := 22) (by decide +kernel)
theorem dX11_termOf_139 : decode cX11_termOf 139 = .ok (.iload 5, 2) := dcu_21 (by decide +kernel)
theorem dX11_termOf_141 : decode cX11_termOf 141 = .ok (.iconst 4, 1) := dc1_7 (by decide +kernel)
theorem dX11_termOf_142 : decode cX11_termOf 142 = .ok (.if_icmp .ne 11, 3) := dcs_160 (n := 11) (by decide +kernel)
theorem dX11_termOf_145 : decode cX11_termOf 145 = .ok (.iload 6, 2) := dcu_21 (by decide +kernel)
theorem dX11_termOf_147 : decode cX11_termOf 147 = .ok (.iload 7, 2) := dcu_21 (by decide +kernel)
theorem dX11_termOf_149 : decode cX11_termOf 149 = .ok (.imul, 1) := dc1_104 (by decide +kernel)
theorem dX11_termOf_150 : decode cX11_termOf 150 = .ok (.goto 8, 3) := dcs_167 (n := 8) (by decide +kernel)
theorem dX11_termOf_153 : decode cX11_termOf 153 = .ok (.iload 6, 2) := dcu_21 (by decide +kernel)
theorem dX11_termOf_155 : decode cX11_termOf 155 = .ok (.iload 7, 2) := dcu_21 (by decide +kernel)
theorem dX11_termOf_157 : decode cX11_termOf 157 = .ok (.idiv, 1) := dc1_108 (by decide +kernel)
theorem dX11_termOf_158 : decode cX11_termOf 158 = .ok (.iastore, 1) := dc1_79 (by decide +kernel)
theorem dX11_termOf_159 : decode cX11_termOf 159 = .ok (.iinc 4 1, 3) := dc_iinc (m := 1) (by decide +kernel)
theorem dX11_termOf_162 : decode cX11_termOf 162 = .ok (.goto (-157), 3) := dcs_167 (n := 65379) (by decide +kernel)
theorem dX11_termOf_165 : decode cX11_termOf 165 = .ok (.aload_n 0, 1) := dc1_42 (by decide +kernel)
theorem dX11_termOf_166 : decode cX11_termOf 166 = .ok (.getfield 95, 3) := dcw_180 (by decide +kernel)
theorem dX11_termOf_169 : decode cX11_termOf 169 = .ok (.iconst 0, 1) := dc1_3 (by decide +kernel)
theorem dX11_termOf_170 : decode cX11_termOf 170 = .ok (.iaload, 1) := dc1_46 (by decide +kernel)
theorem dX11_termOf_171 : decode cX11_termOf 171 = .ok (.ireturn, 1) := dc1_172 (by decide +kernel)
theorem dX11_in_0 : decode cX11_in 0 = .ok (.iload_n 0, 1) := dc1_26 (by decide +kernel)
theorem dX11_in_1 : decode cX11_in 1 = .ok (.iload_n 1, 1) := dc1_27 (by decide +kernel)
theorem dX11_in_2 : decode cX11_in 2 = .ok (.if_icmp .lt 12, 3) := dcs_161 (n := 12) (by decide +kernel)
theorem dX11_in_5 : decode cX11_in 5 = .ok (.iload_n 0, 1) := dc1_26 (by decide +kernel)
theorem dX11_in_6 : decode cX11_in 6 = .ok (.iload_n 2, 1) := dc1_28 (by decide +kernel)
theorem dX11_in_7 : decode cX11_in 7 = .ok (.if_icmp .gt 7, 3) := dcs_163 (n := 7) (by decide +kernel)
theorem dX11_in_10 : decode cX11_in 10 = .ok (.iconst 1, 1) := dc1_4 (by decide +kernel)
theorem dX11_in_11 : decode cX11_in 11 = .ok (.goto 4, 3) := dcs_167 (n := 4) (by decide +kernel)
theorem dX11_in_14 : decode cX11_in 14 = .ok (.iconst 0, 1) := dc1_3 (by decide +kernel)
theorem dX11_in_15 : decode cX11_in 15 = .ok (.ireturn, 1) := dc1_172 (by decide +kernel)
theorem dX11_within_0 : decode cX11_within 0 = .ok (.iload_n 0, 1) := dc1_26 (by decide +kernel)
theorem dX11_within_1 : decode cX11_within 1 = .ok (.iload_n 1, 1) := dc1_27 (by decide +kernel)
theorem dX11_within_2 : decode cX11_within 2 = .ok (.if_icmp .ge 7, 3) := dcs_162 (n := 7) (by decide +kernel)
theorem dX11_within_5 : decode cX11_within 5 = .ok (.iload_n 1, 1) := dc1_27 (by decide +kernel)
theorem dX11_within_6 : decode cX11_within 6 = .ok (.goto 13, 3) := dcs_167 (n := 13) (by decide +kernel)
theorem dX11_within_9 : decode cX11_within 9 = .ok (.iload_n 0, 1) := dc1_26 (by decide +kernel)
theorem dX11_within_10 : decode cX11_within 10 = .ok (.iload_n 2, 1) := dc1_28 (by decide +kernel)
theorem dX11_within_11 : decode cX11_within 11 = .ok (.if_icmp .le 7, 3) := dcs_164 (n := 7) (by decide +kernel)
theorem dX11_within_14 : decode cX11_within 14 = .ok (.iload_n 2, 1) := dc1_28 (by decide +kernel)
theorem dX11_within_15 : decode cX11_within 15 = .ok (.goto 4, 3) := dcs_167 (n := 4) (by decide +kernel)
theorem dX11_within_18 : decode cX11_within 18 = .ok (.iload_n 0, 1) := dc1_26 (by decide +kernel)
theorem dX11_within_19 : decode cX11_within 19 = .ok (.ireturn, 1) := dc1_172 (by decide +kernel)
theorem dX11_bits_0 : decode cX11_bits 0 = .ok (.iconst 0, 1) := dc1_3 (by decide +kernel)
theorem dX11_bits_1 : decode cX11_bits 1 = .ok (.istore_n 1, 1) := dc1_60 (by decide +kernel)
theorem dX11_bits_2 : decode cX11_bits 2 = .ok (.iconst 0, 1) := dc1_3 (by decide +kernel)
theorem dX11_bits_3 : decode cX11_bits 3 = .ok (.istore_n 2, 1) := dc1_61 (by decide +kernel)
theorem dX11_bits_4 : decode cX11_bits 4 = .ok (.iload_n 2, 1) := dc1_28 (by decide +kernel)
theorem dX11_bits_5 : decode cX11_bits 5 = .ok (.bipush 6, 2) := dcb_16 (n := 6) (by decide +kernel)
theorem dX11_bits_7 : decode cX11_bits 7 = .ok (.if_icmp .ge 17, 3) := dcs_162 (n := 17) (by decide +kernel)
theorem dX11_bits_10 : decode cX11_bits 10 = .ok (.iload_n 1, 1) := dc1_27 (by decide +kernel)
theorem dX11_bits_11 : decode cX11_bits 11 = .ok (.iload_n 0, 1) := dc1_26 (by decide +kernel)
theorem dX11_bits_12 : decode cX11_bits 12 = .ok (.iload_n 2, 1) := dc1_28 (by decide +kernel)
theorem dX11_bits_13 : decode cX11_bits 13 = .ok (.ishr, 1) := dc1_122 (by decide +kernel)
theorem dX11_bits_14 : decode cX11_bits 14 = .ok (.iconst 1, 1) := dc1_4 (by decide +kernel)
theorem dX11_bits_15 : decode cX11_bits 15 = .ok (.iand, 1) := dc1_126 (by decide +kernel)
theorem dX11_bits_16 : decode cX11_bits 16 = .ok (.iadd, 1) := dc1_96 (by decide +kernel)
theorem dX11_bits_17 : decode cX11_bits 17 = .ok (.istore_n 1, 1) := dc1_60 (by decide +kernel)
theorem dX11_bits_18 : decode cX11_bits 18 = .ok (.iinc 2 1, 3) := dc_iinc (m := 1) (by decide +kernel)
theorem dX11_bits_21 : decode cX11_bits 21 = .ok (.goto (-17), 3) := dcs_167 (n := 65519) (by decide +kernel)
theorem dX11_bits_24 : decode cX11_bits 24 = .ok (.iload_n 1, 1) := dc1_27 (by decide +kernel)
theorem dX11_bits_25 : decode cX11_bits 25 = .ok (.ireturn, 1) := dc1_172 (by decide +kernel)
theorem dX11_keepsRow_0 : decode cX11_keepsRow 0 = .ok (.iconst 0, 1) := dc1_3 (by decide +kernel)
theorem dX11_keepsRow_1 : decode cX11_keepsRow 1 = .ok (.istore_n 1, 1) := dc1_60 (by decide +kernel)
theorem dX11_keepsRow_2 : decode cX11_keepsRow 2 = .ok (.iload_n 1, 1) := dc1_27 (by decide +kernel)
theorem dX11_keepsRow_3 : decode cX11_keepsRow 3 = .ok (.bipush 29, 2) := dcb_16 (n := 29) (by decide +kernel)
theorem dX11_keepsRow_5 : decode cX11_keepsRow 5 = .ok (.if_icmp .ge 21, 3) := dcs_162 (n := 21) (by decide +kernel)
theorem dX11_keepsRow_8 : decode cX11_keepsRow 8 = .ok (.aload_n 0, 1) := dc1_42 (by decide +kernel)
theorem dX11_keepsRow_9 : decode cX11_keepsRow 9 = .ok (.getfield 98, 3) := dcw_180 (by decide +kernel)
theorem dX11_keepsRow_12 : decode cX11_keepsRow 12 = .ok (.iload_n 1, 1) := dc1_27 (by decide +kernel)
theorem dX11_keepsRow_13 : decode cX11_keepsRow 13 = .ok (.aload_n 0, 1) := dc1_42 (by decide +kernel)
theorem dX11_keepsRow_14 : decode cX11_keepsRow 14 = .ok (.getfield 101, 3) := dcw_180 (by decide +kernel)
theorem dX11_keepsRow_17 : decode cX11_keepsRow 17 = .ok (.iload_n 1, 1) := dc1_27 (by decide +kernel)
theorem dX11_keepsRow_18 : decode cX11_keepsRow 18 = .ok (.iaload, 1) := dc1_46 (by decide +kernel)
theorem dX11_keepsRow_19 : decode cX11_keepsRow 19 = .ok (.iastore, 1) := dc1_79 (by decide +kernel)
theorem dX11_keepsRow_20 : decode cX11_keepsRow 20 = .ok (.iinc 1 1, 3) := dc_iinc (m := 1) (by decide +kernel)
theorem dX11_keepsRow_23 : decode cX11_keepsRow 23 = .ok (.goto (-21), 3) := dcs_167 (n := 65515) (by decide +kernel)
theorem dX11_keepsRow_26 : decode cX11_keepsRow 26 = .ok (.return_, 1) := dc1_177 (by decide +kernel)
theorem LX11_keepsRow_101 : Cond.fieldLink RX11 101 "GuessFerryModel" "row" "[I" ∈ wsX11_keepsRow := (List.mem_cons_of_mem _ (List.mem_append_left _ (List.mem_of_getElem? (i := 1) rfl)))
theorem LX11_keepsRow_98 : Cond.fieldLink RX11 98 "GuessFerryModel" "now" "[I" ∈ wsX11_keepsRow := (List.mem_cons_of_mem _ (List.mem_append_left _ (List.mem_of_getElem? (i := 0) rfl)))
theorem inX11_keepsRow_X11 : ∀ w ∈ u_ws RX11 TX11 58, w ∈ wsX11_keepsRow := fun _ h => List.mem_cons_of_mem _ (List.mem_append_right _ h)
set_option maxHeartbeats 4000000 in
set_option maxRecDepth 100000 in
theorem br_keepsRow_2 {l : Launch} {dC : Nat → ClassId} {dI : Nat → Nat → Nat} {cB cI cJ cZ cS : ClassId} {h : Nat} {a : Nat → Nat} {as : List Value} {s' : RS} {k2 : RS → Int32 → Option RS} (hk2 : ∀ (s : RS) (x1 : Int32), k2 s x1 = some s' → BlkV l yX11_keepsRow wsX11_keepsRow ({ frames := 0, cells := 0, slots := 0, locals := 0 }) cX11_keepsRow 2 none (dC, dI) (tysA cB cI cJ cZ cS) as 2 (mwS cB cI cJ cZ h a s) [(0, .ref h), (1, .int x1)] [] (fun u => u = (mwS cB cI cJ cZ h a s'))) (s : RS) (x1 : Int32) (hB : r_keepsRow_2 k2 s x1 = some s') : BlkV l yX11_keepsRow wsX11_keepsRow ({ frames := 0, cells := 0, slots := 0, locals := 0 }) cX11_keepsRow 2 none (dC, dI) (tysA cB cI cJ cZ cS) as 2 (mwS cB cI cJ cZ h a s) [(0, .ref h), (1, .int x1)] [] (fun u => u = (mwS cB cI cJ cZ h a s')) := by
  intro p e s0 m below meth c A E H locs ls hP hD hS hl
  obtain ⟨C, hr, hlocks, hA, hK, hN⟩ := id E
  obtain ⟨hx, hb, hml, hown, hts⟩ := id C
  unfold r_keepsRow_2 at hB
  refine lv_iload_n hx hb dX11_keepsRow_2 rfl (lv_at hl 1 rfl) ?_
  refine lv_bipush (v := 29) hx hb dX11_keepsRow_3 (by decide) ?_
  refine lv_icmp_ge (tgt := 26) hx hb dX11_keepsRow_5 (by decide) (fun c1 => ?_) (fun c1 => ?_)
  · have hB := if_p hB c1
    exact q_vret C hr hlocks hK hP hD hS (Nat.le_of_ble_eq_true rfl) (Nat.le_of_ble_eq_true rfl) dX11_keepsRow_26 (by cases hB; rfl)
  · have hB := if_n hB c1
    refine lv_aload_n hx hb dX11_keepsRow_8 rfl (lv_at hl 0 rfl) ?_
    refine q_get (v := .ref (a 43)) C inX11_keepsRow_X11 hK hP 0 rfl rfl 43 (by decide) rfl LX11_keepsRow_98 rfl dX11_keepsRow_9 ?_
    refine lv_iload_n hx hb dX11_keepsRow_12 rfl (lv_at hl 1 rfl) ?_
    refine lv_aload_n hx hb dX11_keepsRow_13 rfl (lv_at hl 0 rfl) ?_
    refine q_get (v := .ref (a 44)) C inX11_keepsRow_X11 hK hP 0 rfl rfl 44 (by decide) rfl LX11_keepsRow_101 rfl dX11_keepsRow_14 ?_
    refine lv_iload_n hx hb dX11_keepsRow_17 rfl (lv_at hl 1 rfl) ?_
    obtain ⟨g2, hB⟩ := guard_inv hB
    refine q_iald (x := (s.f 44 (Int32.toNatClampNeg x1))) C hK hP 28 1 rfl rfl (vpb_in g2) dX11_keepsRow_18 rfl ?_
    obtain ⟨g3, hB⟩ := guard_inv hB
    obtain ⟨s4, hs5, hB⟩ := letS_inv hB
    refine q_iast (f2 := (upd (s.f 43) (Int32.toNatClampNeg x1) (s.f 44 (Int32.toNatClampNeg x1)))) (w2 := (mwS cB cI cJ cZ h a s4)) C hK hP hD hS 27 1 rfl rfl (vpb_in g3) dX11_keepsRow_19 rfl (mwS_f43 hs5) (fun H locs hP hD hS => ?_)
    refine lv_iinc (v := (x1 + 1)) (lv' := [(1, .int (x1 + 1)), (0, .ref h)]) hx hb dX11_keepsRow_20 hl (k := 1) rfl (rfl) (by decide) rfl (fun ls hl => ?_)
    refine lv_goto (tgt := 2) hx hb dX11_keepsRow_23 (by decide) ?_
    exact hk2 _ _ hB p e s0 m below meth c A E H locs ls hP hD hS (lv_sub hl [1, 0] rfl)
theorem br_keepsRow_2L {l : Launch} {dC : Nat → ClassId} {dI : Nat → Nat → Nat} {cB cI cJ cZ cS : ClassId} {h : Nat} {a : Nat → Nat} {as : List Value} {s' : RS} : ∀ (n : Nat) (s : RS) (x1 : Int32), r_keepsRow_2L n s x1 = some s' → BlkV l yX11_keepsRow wsX11_keepsRow ({ frames := 0, cells := 0, slots := 0, locals := 0 }) cX11_keepsRow 2 none (dC, dI) (tysA cB cI cJ cZ cS) as 2 (mwS cB cI cJ cZ h a s) [(0, .ref h), (1, .int x1)] [] (fun u => u = (mwS cB cI cJ cZ h a s')) := by
  intro n
  induction n with
  | zero => intro s x1 hB; exact none_ne hB
  | succ n ih => intro s x1 hB; exact br_keepsRow_2 ih _ _ hB
set_option maxHeartbeats 4000000 in
set_option maxRecDepth 100000 in
theorem br_keepsRow {l : Launch} {dC : Nat → ClassId} {dI : Nat → Nat → Nat} {cB cI cJ cZ cS : ClassId} {h : Nat} {a : Nat → Nat} {as : List Value} {s' : RS} (s : RS) (hB : r_keepsRow s = some s') : BlkV l yX11_keepsRow wsX11_keepsRow ({ frames := 0, cells := 0, slots := 0, locals := 0 }) cX11_keepsRow 2 none (dC, dI) (tysA cB cI cJ cZ cS) as 0 (mwS cB cI cJ cZ h a s) [(0, .ref h)] [] (fun u => u = (mwS cB cI cJ cZ h a s')) := by
  intro p e s0 m below meth c A E H locs ls hP hD hS hl
  obtain ⟨C, hr, hlocks, hA, hK, hN⟩ := id E
  obtain ⟨hx, hb, hml, hown, hts⟩ := id C
  unfold r_keepsRow at hB
  refine lv_iconst (v := 0) hx hb dX11_keepsRow_0 (by decide) ?_
  refine lv_istore_n (lv' := [(1, .int 0), (0, .ref h)]) hx hb dX11_keepsRow_1 rfl hl (by decide) rfl (fun ls hl => ?_)
  exact br_keepsRow_2L fu _ _ hB p e s0 m below meth c A E H locs ls hP hD hS (lv_sub hl [1, 0] rfl)
theorem cr_keepsRow {l : Launch} {dC : Nat → ClassId} {dI : Nat → Nat → Nat} {cB cI cJ cZ cS : ClassId} {h : Nat} {a : Nat → Nat} {s' : RS} {s : RS} (hB : r_keepsRow s = some s') : CV l yX11_keepsRow wsX11_keepsRow ({ frames := 0, cells := 0, slots := 0, locals := 0 }) (dC, dI) (tysA cB cI cJ cZ cS) (mwS cB cI cJ cZ h a s) [.ref h] (fun u => u = (mwS cB cI cJ cZ h a s')) :=
  CV_of (cc := cX11_keepsRow) (maxL := 2) (ret := none) (by decide) rfl (Nat.le_of_ble_eq_true rfl) (br_keepsRow _ hB)
theorem LX11_read_128 : Cond.fieldLink RX11 128 "GuessFerryModel" "isHeld" "[Z" ∈ wsX11_read := (List.mem_cons_of_mem _ (List.mem_append_left _ (List.mem_append_left _ (List.mem_of_getElem? (i := 17) rfl))))
theorem LX11_read_13 : Cond.fieldLink RX11 13 "GuessFerryModel" "tape" "[B" ∈ wsX11_read := (List.mem_cons_of_mem _ (List.mem_append_left _ (List.mem_append_left _ (List.mem_of_getElem? (i := 3) rfl))))
theorem LX11_read_148 : Cond.fieldLink RX11 148 "GuessFerryModel" "taped" "I" ∈ wsX11_read := (List.mem_cons_of_mem _ (List.mem_append_left _ (List.mem_append_left _ (List.mem_of_getElem? (i := 0) rfl))))
theorem LX11_read_154 : Cond.fieldLink RX11 154 "GuessFerryModel" "size" "I" ∈ wsX11_read := (List.mem_cons_of_mem _ (List.mem_append_left _ (List.mem_append_left _ (List.mem_of_getElem? (i := 1) rfl))))
theorem LX11_read_17 : Cond.fieldLink RX11 17 "GuessFerryModel" "text" "[B" ∈ wsX11_read := (List.mem_cons_of_mem _ (List.mem_append_left _ (List.mem_append_left _ (List.mem_of_getElem? (i := 2) rfl))))
theorem LX11_read_185 : Cond.fieldLink RX11 185 "GuessFerryModel" "fault" "I" ∈ wsX11_read := (List.mem_cons_of_mem _ (List.mem_append_left _ (List.mem_append_left _ (List.mem_of_getElem? (i := 6) rfl))))
theorem LX11_read_188 : Cond.fieldLink RX11 188 "GuessFerryModel" "t" "I" ∈ wsX11_read := (List.mem_cons_of_mem _ (List.mem_append_left _ (List.mem_append_left _ (List.mem_of_getElem? (i := 4) rfl))))
theorem LX11_read_191 : Cond.fieldLink RX11 191 "GuessFerryModel" "faultPlace" "I" ∈ wsX11_read := (List.mem_cons_of_mem _ (List.mem_append_left _ (List.mem_append_left _ (List.mem_of_getElem? (i := 12) rfl))))
theorem LX11_read_194 : Cond.fieldLink RX11 194 "GuessFerryModel" "worst" "I" ∈ wsX11_read := (List.mem_cons_of_mem _ (List.mem_append_left _ (List.mem_append_left _ (List.mem_of_getElem? (i := 7) rfl))))
theorem LX11_read_197 : Cond.fieldLink RX11 197 "GuessFerryModel" "worstPlace" "I" ∈ wsX11_read := (List.mem_cons_of_mem _ (List.mem_append_left _ (List.mem_append_left _ (List.mem_of_getElem? (i := 13) rfl))))
theorem LX11_read_212 : Cond.fieldLink RX11 212 "GuessFerryModel" "open" "I" ∈ wsX11_read := (List.mem_cons_of_mem _ (List.mem_append_left _ (List.mem_append_left _ (List.mem_of_getElem? (i := 5) rfl))))
theorem LX11_read_215 : Cond.fieldLink RX11 215 "GuessFerryModel" "live" "I" ∈ wsX11_read := (List.mem_cons_of_mem _ (List.mem_append_left _ (List.mem_append_left _ (List.mem_of_getElem? (i := 8) rfl))))
theorem LX11_read_218 : Cond.fieldLink RX11 218 "GuessFerryModel" "side" "I" ∈ wsX11_read := (List.mem_cons_of_mem _ (List.mem_append_left _ (List.mem_append_left _ (List.mem_of_getElem? (i := 9) rfl))))
theorem LX11_read_221 : Cond.fieldLink RX11 221 "GuessFerryModel" "branches" "I" ∈ wsX11_read := (List.mem_cons_of_mem _ (List.mem_append_left _ (List.mem_append_left _ (List.mem_of_getElem? (i := 10) rfl))))
theorem LX11_read_224 : Cond.fieldLink RX11 224 "GuessFerryModel" "codes" "I" ∈ wsX11_read := (List.mem_cons_of_mem _ (List.mem_append_left _ (List.mem_append_left _ (List.mem_of_getElem? (i := 11) rfl))))
theorem LX11_read_230 : Cond.fieldLink RX11 230 "GuessFerryModel" "undos" "I" ∈ wsX11_read := (List.mem_cons_of_mem _ (List.mem_append_left _ (List.mem_append_left _ (List.mem_of_getElem? (i := 15) rfl))))
theorem LX11_read_233 : Cond.fieldLink RX11 233 "GuessFerryModel" "tolds" "I" ∈ wsX11_read := (List.mem_cons_of_mem _ (List.mem_append_left _ (List.mem_append_left _ (List.mem_of_getElem? (i := 16) rfl))))
theorem LX11_read_37 : Cond.fieldLink RX11 37 "GuessFerryModel" "place" "I" ∈ wsX11_read := (List.mem_cons_of_mem _ (List.mem_append_left _ (List.mem_append_left _ (List.mem_of_getElem? (i := 14) rfl))))
theorem inX11_read_X11 : ∀ w ∈ u_ws RX11 TX11 58, w ∈ wsX11_read := fun w h => (List.mem_cons_of_mem _ (List.mem_append_right _ h))
set_option maxHeartbeats 4000000 in
set_option maxRecDepth 100000 in
theorem br_read_214 {l : Launch} {dC : Nat → ClassId} {dI : Nat → Nat → Nat} {cB cI cJ cZ cS : ClassId} {h : Nat} {a : Nat → Nat} {as : List Value} {r : Int32} {s' : RS} {k214 : RS → Int32 → Option (Int32 × RS)} (hk214 : ∀ (s : RS) (x1 : Int32), k214 s x1 = some (r, s') → BlkI l yX11_read wsX11_read ({ frames := 7, cells := 0, slots := 0, locals := 147 }) cX11_read 2 (some .int) (dC, dI) (tysA cB cI cJ cZ cS) as 214 (mwS cB cI cJ cZ h a s) [(0, .ref h), (1, .int x1)] [] (fun x u => x = r ∧ u = (mwS cB cI cJ cZ h a s'))) (s : RS) (x1 : Int32) (hB : r_read_214 k214 s x1 = some (r, s')) : BlkI l yX11_read wsX11_read ({ frames := 7, cells := 0, slots := 0, locals := 147 }) cX11_read 2 (some .int) (dC, dI) (tysA cB cI cJ cZ cS) as 214 (mwS cB cI cJ cZ h a s) [(0, .ref h), (1, .int x1)] [] (fun x u => x = r ∧ u = (mwS cB cI cJ cZ h a s')) := by
  intro p e s0 m below meth c A E H locs ls hP hD hS hl
  obtain ⟨C, hr, hlocks, hA, hK, hN⟩ := id E
  obtain ⟨hx, hb, hml, hown, hts⟩ := id C
  unfold r_read_214 at hB
  refine lv_iload_n hx hb dX11_read_214 rfl (lv_at hl 1 rfl) ?_
  refine lv_iconst (v := 3) hx hb dX11_read_215 (by decide) ?_
  refine lv_icmp_ge (tgt := 232) hx hb dX11_read_216 (by decide) (fun c1 => ?_) (fun c1 => ?_)
  · have hB := if_p hB c1
    refine lv_iconst (v := 0) hx hb dX11_read_232 (by decide) ?_
    exact q_iret C hr hlocks hK hP hD hS (Nat.le_of_ble_eq_true rfl) (Nat.le_of_ble_eq_true rfl) dX11_read_233 (by cases hB; exact ⟨rfl, rfl⟩)
  · have hB := if_n hB c1
    refine lv_aload_n hx hb dX11_read_219 rfl (lv_at hl 0 rfl) ?_
    refine q_get (v := .ref (a 56)) C inX11_read_X11 hK hP 0 rfl rfl 56 (by decide) rfl LX11_read_128 rfl dX11_read_220 ?_
    refine lv_iload_n hx hb dX11_read_223 rfl (lv_at hl 1 rfl) ?_
    refine lv_iconst (v := 0) hx hb dX11_read_224 (by decide) ?_
    obtain ⟨g2, hB⟩ := guard_inv hB
    obtain ⟨s3, hs4, hB⟩ := letS_inv hB
    refine q_zast (f2 := (upd (s.f 56) (Int32.toNatClampNeg x1) (vp_nar .boolean 0))) (w2 := (mwS cB cI cJ cZ h a s3)) C hK hP hD hS 37 3 rfl rfl (vpb_in g2) dX11_read_225 rfl (mwS_f56 hs4) (fun H locs hP hD hS => ?_)
    refine lv_iinc (v := (x1 + 1)) (lv' := [(1, .int (x1 + 1)), (0, .ref h)]) hx hb dX11_read_226 hl (k := 1) rfl (rfl) (by decide) rfl (fun ls hl => ?_)
    refine lv_goto (tgt := 214) hx hb dX11_read_229 (by decide) ?_
    exact hk214 _ _ hB p e s0 m below meth c A E H locs ls hP hD hS (lv_sub hl [1, 0] rfl)
theorem br_read_214L {l : Launch} {dC : Nat → ClassId} {dI : Nat → Nat → Nat} {cB cI cJ cZ cS : ClassId} {h : Nat} {a : Nat → Nat} {as : List Value} {r : Int32} {s' : RS} : ∀ (n : Nat) (s : RS) (x1 : Int32), r_read_214L n s x1 = some (r, s') → BlkI l yX11_read wsX11_read ({ frames := 7, cells := 0, slots := 0, locals := 147 }) cX11_read 2 (some .int) (dC, dI) (tysA cB cI cJ cZ cS) as 214 (mwS cB cI cJ cZ h a s) [(0, .ref h), (1, .int x1)] [] (fun x u => x = r ∧ u = (mwS cB cI cJ cZ h a s')) := by
  intro n
  induction n with
  | zero => intro s x1 hB; exact none_ne hB
  | succ n ih => intro s x1 hB; exact br_read_214 ih _ _ hB
set_option maxHeartbeats 4000000 in
set_option maxRecDepth 100000 in
theorem br_read_159 {l : Launch} {dC : Nat → ClassId} {dI : Nat → Nat → Nat} {cB cI cJ cZ cS : ClassId} {h : Nat} {a : Nat → Nat} {as : List Value} {r : Int32} {s' : RS} (s : RS) (t0 : Int32) (hB : r_read_159 s t0 = some (r, s')) : BlkI l yX11_read wsX11_read ({ frames := 7, cells := 0, slots := 0, locals := 147 }) cX11_read 2 (some .int) (dC, dI) (tysA cB cI cJ cZ cS) as 159 (mwS cB cI cJ cZ h a s) [(0, .ref h)] [.int t0, .ref h] (fun x u => x = r ∧ u = (mwS cB cI cJ cZ h a s')) := by
  intro p e s0 m below meth c A E H locs ls hP hD hS hl
  obtain ⟨C, hr, hlocks, hA, hK, hN⟩ := id E
  obtain ⟨hx, hb, hml, hown, hts⟩ := id C
  unfold r_read_159 at hB
  obtain ⟨s1, hs2, hB⟩ := letS_inv hB
  refine q_put (ty := .int) (w2 := (mwS cB cI cJ cZ h a s1)) tyX11 tyX11_ok nmX11 C inX11_read_X11 hK hP hD hS 0 rfl rfl 17 (by decide) rfl LX11_read_37 rfl (by decide +kernel) (rfl) rfl (Nat.le_of_ble_eq_true rfl) dX11_read_159 (mwS_v17 hs2) (fun H locs hP hD hS => ?_)
  refine lv_aload_n hx hb dX11_read_162 rfl (lv_at hl 0 rfl) ?_
  refine q_get (v := .int (s1.v 13)) C inX11_read_X11 hK hP 0 rfl rfl 13 (by decide) rfl LX11_read_185 rfl dX11_read_163 ?_
  refine lv_if_le (tgt := 174) hx hb dX11_read_166 (by decide) (fun c3 => ?_) (fun c3 => ?_)
  · have hB := if_p hB c3
    refine lv_aload_n hx hb dX11_read_174 rfl (lv_at hl 0 rfl) ?_
    refine q_get (v := .int (s1.v 15)) C inX11_read_X11 hK hP 0 rfl rfl 15 (by decide) rfl LX11_read_194 rfl dX11_read_175 ?_
    refine lv_if_le (tgt := 186) hx hb dX11_read_178 (by decide) (fun c4 => ?_) (fun c4 => ?_)
    · have hB := if_p hB c4
      refine lv_aload_n hx hb dX11_read_186 rfl (lv_at hl 0 rfl) ?_
      refine lv_aload_n hx hb dX11_read_187 rfl (lv_at hl 0 rfl) ?_
      refine q_get (v := .int (s1.v 19)) C inX11_read_X11 hK hP 0 rfl rfl 19 (by decide) rfl LX11_read_218 rfl dX11_read_188 ?_
      obtain ⟨s5, hs6, hB⟩ := letS_inv hB
      refine q_put (ty := .int) (w2 := (mwS cB cI cJ cZ h a s5)) tyX11 tyX11_ok nmX11 C inX11_read_X11 hK hP hD hS 0 rfl rfl 18 (by decide) rfl LX11_read_215 rfl (by decide +kernel) (rfl) rfl (Nat.le_of_ble_eq_true rfl) dX11_read_191 (mwS_v18 hs6) (fun H locs hP hD hS => ?_)
      refine lv_aload_n hx hb dX11_read_194 rfl (lv_at hl 0 rfl) ?_
      obtain ⟨s7, hc, hB⟩ := bindP_inv hB
      refine q_govF (va_runV (As := []) (rest := []) C (cr_begins hc _) (cwV 0 hts gX11_read_X11_begins rfl rfl rfl (by decide +kernel) ⟨Nat.le_of_ble_eq_true rfl, Nat.le_of_ble_eq_true rfl⟩) (q_preV hK hP (ci := 11) (q0 := 0) rfl rfl rfl (q_preF hN hK hP hD)) rfl rfl hl.1 rfl (lv_room (Nat.le_of_ble_eq_true rfl)) dX11_read_195 ⟨Nat.le_of_ble_eq_true rfl, Nat.le_of_ble_eq_true rfl⟩) hD hS hA (fun w1 H locs hw hP hD hS => ?_)
      subst hw
      refine lv_aload_n hx hb dX11_read_198 rfl (lv_at hl 0 rfl) ?_
      obtain ⟨s8, hc, hB⟩ := bindP_inv hB
      refine q_govF (va_runV (As := []) (rest := []) C (cr_keepsRow hc _) (cwV 0 hts gX11_read_X11_keepsRow rfl rfl rfl (by decide +kernel) ⟨Nat.le_of_ble_eq_true rfl, Nat.le_of_ble_eq_true rfl⟩) (q_preV hK hP (ci := 11) (q0 := 0) rfl rfl rfl (q_preF hN hK hP hD)) rfl rfl hl.1 rfl (lv_room (Nat.le_of_ble_eq_true rfl)) dX11_read_199 ⟨Nat.le_of_ble_eq_true rfl, Nat.le_of_ble_eq_true rfl⟩) hD hS hA (fun w1 H locs hw hP hD hS => ?_)
      subst hw
      refine lv_aload_n hx hb dX11_read_202 rfl (lv_at hl 0 rfl) ?_
      refine lv_iconst (v := 0) hx hb dX11_read_203 (by decide) ?_
      obtain ⟨s9, hs10, hB⟩ := letS_inv hB
      refine q_put (ty := .int) (w2 := (mwS cB cI cJ cZ h a s9)) tyX11 tyX11_ok nmX11 C inX11_read_X11 hK hP hD hS 0 rfl rfl 48 (by decide) rfl LX11_read_230 rfl (by decide +kernel) (rfl) rfl (Nat.le_of_ble_eq_true rfl) dX11_read_204 (mwS_v48 hs10) (fun H locs hP hD hS => ?_)
      refine lv_aload_n hx hb dX11_read_207 rfl (lv_at hl 0 rfl) ?_
      refine lv_iconst (v := 0) hx hb dX11_read_208 (by decide) ?_
      obtain ⟨s11, hs12, hB⟩ := letS_inv hB
      refine q_put (ty := .int) (w2 := (mwS cB cI cJ cZ h a s11)) tyX11 tyX11_ok nmX11 C inX11_read_X11 hK hP hD hS 0 rfl rfl 51 (by decide) rfl LX11_read_233 rfl (by decide +kernel) (rfl) rfl (Nat.le_of_ble_eq_true rfl) dX11_read_209 (mwS_v51 hs12) (fun H locs hP hD hS => ?_)
      refine lv_iconst (v := 0) hx hb dX11_read_212 (by decide) ?_
      refine lv_istore_n (lv' := [(1, .int 0), (0, .ref h)]) hx hb dX11_read_213 rfl hl (by decide) rfl (fun ls hl => ?_)
      exact br_read_214L fu _ _ hB p e s0 m below meth c A E H locs ls hP hD hS (lv_sub hl [1, 0] rfl)
    · have hB := if_n hB c4
      refine lv_aload_n hx hb dX11_read_181 rfl (lv_at hl 0 rfl) ?_
      refine q_get (v := .int (s1.v 15)) C inX11_read_X11 hK hP 0 rfl rfl 15 (by decide) rfl LX11_read_194 rfl dX11_read_182 ?_
      exact q_iret C hr hlocks hK hP hD hS (Nat.le_of_ble_eq_true rfl) (Nat.le_of_ble_eq_true rfl) dX11_read_185 (by cases hB; exact ⟨rfl, rfl⟩)
  · have hB := if_n hB c3
    refine lv_aload_n hx hb dX11_read_169 rfl (lv_at hl 0 rfl) ?_
    refine q_get (v := .int (s1.v 13)) C inX11_read_X11 hK hP 0 rfl rfl 13 (by decide) rfl LX11_read_185 rfl dX11_read_170 ?_
    exact q_iret C hr hlocks hK hP hD hS (Nat.le_of_ble_eq_true rfl) (Nat.le_of_ble_eq_true rfl) dX11_read_173 (by cases hB; exact ⟨rfl, rfl⟩)
set_option maxHeartbeats 4000000 in
set_option maxRecDepth 100000 in
theorem br_read_129 {l : Launch} {dC : Nat → ClassId} {dI : Nat → Nat → Nat} {cB cI cJ cZ cS : ClassId} {h : Nat} {a : Nat → Nat} {as : List Value} {r : Int32} {s' : RS} (s : RS) (hB : r_read_129 s = some (r, s')) : BlkI l yX11_read wsX11_read ({ frames := 7, cells := 0, slots := 0, locals := 147 }) cX11_read 2 (some .int) (dC, dI) (tysA cB cI cJ cZ cS) as 129 (mwS cB cI cJ cZ h a s) [(0, .ref h)] [] (fun x u => x = r ∧ u = (mwS cB cI cJ cZ h a s')) := by
  intro p e s0 m below meth c A E H locs ls hP hD hS hl
  obtain ⟨C, hr, hlocks, hA, hK, hN⟩ := id E
  obtain ⟨hx, hb, hml, hown, hts⟩ := id C
  unfold r_read_129 at hB
  refine lv_aload_n hx hb dX11_read_129 rfl (lv_at hl 0 rfl) ?_
  refine lv_aload_n hx hb dX11_read_130 rfl (lv_at hl 0 rfl) ?_
  refine q_get (v := .int (s.v 13)) C inX11_read_X11 hK hP 0 rfl rfl 13 (by decide) rfl LX11_read_185 rfl dX11_read_131 ?_
  refine lv_if_le (tgt := 144) hx hb dX11_read_134 (by decide) (fun c1 => ?_) (fun c1 => ?_)
  · have hB := if_p hB c1
    refine lv_aload_n hx hb dX11_read_144 rfl (lv_at hl 0 rfl) ?_
    refine q_get (v := .int (s.v 15)) C inX11_read_X11 hK hP 0 rfl rfl 15 (by decide) rfl LX11_read_194 rfl dX11_read_145 ?_
    refine lv_if_le (tgt := 158) hx hb dX11_read_148 (by decide) (fun c2 => ?_) (fun c2 => ?_)
    · have hB := if_p hB c2
      refine lv_iconst (v := (-1)) hx hb dX11_read_158 (by decide) ?_
      exact br_read_159 _ _ hB p e s0 m below meth c A E H locs ls hP hD hS (lv_sub hl [0] rfl)
    · have hB := if_n hB c2
      refine lv_aload_n hx hb dX11_read_151 rfl (lv_at hl 0 rfl) ?_
      refine q_get (v := .int (s.v 16)) C inX11_read_X11 hK hP 0 rfl rfl 16 (by decide) rfl LX11_read_197 rfl dX11_read_152 ?_
      refine lv_goto (tgt := 159) hx hb dX11_read_155 (by decide) ?_
      exact br_read_159 _ _ hB p e s0 m below meth c A E H locs ls hP hD hS (lv_sub hl [0] rfl)
  · have hB := if_n hB c1
    refine lv_aload_n hx hb dX11_read_137 rfl (lv_at hl 0 rfl) ?_
    refine q_get (v := .int (s.v 14)) C inX11_read_X11 hK hP 0 rfl rfl 14 (by decide) rfl LX11_read_191 rfl dX11_read_138 ?_
    refine lv_goto (tgt := 159) hx hb dX11_read_141 (by decide) ?_
    exact br_read_159 _ _ hB p e s0 m below meth c A E H locs ls hP hD hS (lv_sub hl [0] rfl)
set_option maxHeartbeats 4000000 in
set_option maxRecDepth 100000 in
theorem br_read_107 {l : Launch} {dC : Nat → ClassId} {dI : Nat → Nat → Nat} {cB cI cJ cZ cS : ClassId} {h : Nat} {a : Nat → Nat} {as : List Value} {r : Int32} {s' : RS} {k107 : RS → Option (Int32 × RS)} (hk107 : ∀ (s : RS), k107 s = some (r, s') → BlkI l yX11_read wsX11_read ({ frames := 7, cells := 0, slots := 0, locals := 147 }) cX11_read 2 (some .int) (dC, dI) (tysA cB cI cJ cZ cS) as 107 (mwS cB cI cJ cZ h a s) [(0, .ref h)] [] (fun x u => x = r ∧ u = (mwS cB cI cJ cZ h a s'))) (s : RS) (hB : r_read_107 k107 s = some (r, s')) : BlkI l yX11_read wsX11_read ({ frames := 7, cells := 0, slots := 0, locals := 147 }) cX11_read 2 (some .int) (dC, dI) (tysA cB cI cJ cZ cS) as 107 (mwS cB cI cJ cZ h a s) [(0, .ref h)] [] (fun x u => x = r ∧ u = (mwS cB cI cJ cZ h a s')) := by
  intro p e s0 m below meth c A E H locs ls hP hD hS hl
  obtain ⟨C, hr, hlocks, hA, hK, hN⟩ := id E
  obtain ⟨hx, hb, hml, hown, hts⟩ := id C
  unfold r_read_107 at hB
  refine lv_aload_n hx hb dX11_read_107 rfl (lv_at hl 0 rfl) ?_
  refine q_get (v := .int (s.v 13)) C inX11_read_X11 hK hP 0 rfl rfl 13 (by decide) rfl LX11_read_185 rfl dX11_read_108 ?_
  refine lv_if_ne (tgt := 129) hx hb dX11_read_111 (by decide) (fun c1 => ?_) (fun c1 => ?_)
  · have hB := if_n hB c1
    exact br_read_129 _ hB p e s0 m below meth c A E H locs ls hP hD hS (lv_sub hl [0] rfl)
  · have hB := if_p hB c1
    refine lv_aload_n hx hb dX11_read_114 rfl (lv_at hl 0 rfl) ?_
    refine lv_iconst (v := 0) hx hb dX11_read_115 (by decide) ?_
    obtain ⟨q_, s2, hc, hB⟩ := bindI_inv hB
    refine q_goiF (va_runV (As := [.int 0]) (rest := []) C (cr_is hc _) (cwV 1 hts gX11_read_X11_is rfl rfl rfl (by decide +kernel) ⟨Nat.le_of_ble_eq_true rfl, Nat.le_of_ble_eq_true rfl⟩) (q_preV hK hP (ci := 11) (q0 := 0) rfl rfl rfl (q_preF hN hK hP hD)) rfl rfl hl.1 rfl (lv_room (Nat.le_of_ble_eq_true rfl)) dX11_read_116 ⟨Nat.le_of_ble_eq_true rfl, Nat.le_of_ble_eq_true rfl⟩) hD hS hA (fun r3 w1 H locs hw hP hD hS => ?_)
    obtain ⟨hq_, hw⟩ := hw; subst hw; subst hq_
    refine lv_if_ne (tgt := 129) hx hb dX11_read_119 (by decide) (fun c4 => ?_) (fun c4 => ?_)
    · have hB := if_n hB c4
      exact br_read_129 _ hB p e s0 m below meth c A E H locs ls hP hD hS (lv_sub hl [0] rfl)
    · have hB := if_p hB c4
      refine lv_aload_n hx hb dX11_read_122 rfl (lv_at hl 0 rfl) ?_
      obtain ⟨s5, hc, hB⟩ := bindP_inv hB
      refine q_govF (va_runV (As := []) (rest := []) C (cr_tellOne hc _) (cwV 0 hts gX11_read_X11_tellOne rfl rfl rfl (by decide +kernel) ⟨Nat.le_of_ble_eq_true rfl, Nat.le_of_ble_eq_true rfl⟩) (q_preV hK hP (ci := 11) (q0 := 0) rfl rfl rfl (q_preF hN hK hP hD)) rfl rfl hl.1 rfl (lv_room (Nat.le_of_ble_eq_true rfl)) dX11_read_123 ⟨Nat.le_of_ble_eq_true rfl, Nat.le_of_ble_eq_true rfl⟩) hD hS hA (fun w1 H locs hw hP hD hS => ?_)
      subst hw
      refine lv_goto (tgt := 107) hx hb dX11_read_126 (by decide) ?_
      exact hk107 _ hB p e s0 m below meth c A E H locs ls hP hD hS (lv_sub hl [0] rfl)
theorem br_read_107L {l : Launch} {dC : Nat → ClassId} {dI : Nat → Nat → Nat} {cB cI cJ cZ cS : ClassId} {h : Nat} {a : Nat → Nat} {as : List Value} {r : Int32} {s' : RS} : ∀ (n : Nat) (s : RS), r_read_107L n s = some (r, s') → BlkI l yX11_read wsX11_read ({ frames := 7, cells := 0, slots := 0, locals := 147 }) cX11_read 2 (some .int) (dC, dI) (tysA cB cI cJ cZ cS) as 107 (mwS cB cI cJ cZ h a s) [(0, .ref h)] [] (fun x u => x = r ∧ u = (mwS cB cI cJ cZ h a s')) := by
  intro n
  induction n with
  | zero => intro s hB; exact none_ne hB
  | succ n ih => intro s hB; exact br_read_107 ih _ hB
set_option maxHeartbeats 4000000 in
set_option maxRecDepth 100000 in
theorem br_read_10 {l : Launch} {dC : Nat → ClassId} {dI : Nat → Nat → Nat} {cB cI cJ cZ cS : ClassId} {h : Nat} {a : Nat → Nat} {as : List Value} {r : Int32} {s' : RS} {k10 : RS → Int32 → Option (Int32 × RS)} (hk10 : ∀ (s : RS) (x1 : Int32), k10 s x1 = some (r, s') → BlkI l yX11_read wsX11_read ({ frames := 7, cells := 0, slots := 0, locals := 147 }) cX11_read 2 (some .int) (dC, dI) (tysA cB cI cJ cZ cS) as 10 (mwS cB cI cJ cZ h a s) [(0, .ref h), (1, .int x1)] [] (fun x u => x = r ∧ u = (mwS cB cI cJ cZ h a s'))) (s : RS) (x1 : Int32) (hB : r_read_10 k10 s x1 = some (r, s')) : BlkI l yX11_read wsX11_read ({ frames := 7, cells := 0, slots := 0, locals := 147 }) cX11_read 2 (some .int) (dC, dI) (tysA cB cI cJ cZ cS) as 10 (mwS cB cI cJ cZ h a s) [(0, .ref h), (1, .int x1)] [] (fun x u => x = r ∧ u = (mwS cB cI cJ cZ h a s')) := by
  intro p e s0 m below meth c A E H locs ls hP hD hS hl
  obtain ⟨C, hr, hlocks, hA, hK, hN⟩ := id E
  obtain ⟨hx, hb, hml, hown, hts⟩ := id C
  unfold r_read_10 at hB
  refine lv_iload_n hx hb dX11_read_10 rfl (lv_at hl 1 rfl) ?_
  refine lv_aload_n hx hb dX11_read_11 rfl (lv_at hl 0 rfl) ?_
  refine q_get (v := .int (s.v 4)) C inX11_read_X11 hK hP 0 rfl rfl 4 (by decide) rfl LX11_read_154 rfl dX11_read_12 ?_
  refine lv_icmp_ge (tgt := 36) hx hb dX11_read_15 (by decide) (fun c1 => ?_) (fun c1 => ?_)
  · have hB := if_p hB c1
    refine lv_aload_n hx hb dX11_read_36 rfl (lv_at hl 0 rfl) ?_
    refine lv_iconst (v := 0) hx hb dX11_read_37 (by decide) ?_
    obtain ⟨s2, hs3, hB⟩ := letS_inv hB
    refine q_put (ty := .int) (w2 := (mwS cB cI cJ cZ h a s2)) tyX11 tyX11_ok nmX11 C inX11_read_X11 hK hP hD hS 0 rfl rfl 2 (by decide) rfl LX11_read_148 rfl (by decide +kernel) (rfl) rfl (Nat.le_of_ble_eq_true rfl) dX11_read_38 (mwS_v2 hs3) (fun H locs hP hD hS => ?_)
    refine lv_aload_n hx hb dX11_read_41 rfl (lv_at hl 0 rfl) ?_
    obtain ⟨s4, hc, hB⟩ := bindP_inv hB
    refine q_govF (va_runV (As := []) (rest := []) C (cr_cut hc _) (cwV 0 hts gX11_read_X11_cut rfl rfl rfl (by decide +kernel) ⟨Nat.le_of_ble_eq_true rfl, Nat.le_of_ble_eq_true rfl⟩) (q_preV hK hP (ci := 11) (q0 := 0) rfl rfl rfl (q_preF hN hK hP hD)) rfl rfl hl.1 rfl (lv_room (Nat.le_of_ble_eq_true rfl)) dX11_read_42 ⟨Nat.le_of_ble_eq_true rfl, Nat.le_of_ble_eq_true rfl⟩) hD hS hA (fun w1 H locs hw hP hD hS => ?_)
    subst hw
    refine lv_aload_n hx hb dX11_read_45 rfl (lv_at hl 0 rfl) ?_
    refine lv_iconst (v := 0) hx hb dX11_read_46 (by decide) ?_
    obtain ⟨s5, hs6, hB⟩ := letS_inv hB
    refine q_put (ty := .int) (w2 := (mwS cB cI cJ cZ h a s5)) tyX11 tyX11_ok nmX11 C inX11_read_X11 hK hP hD hS 0 rfl rfl 11 (by decide) rfl LX11_read_188 rfl (by decide +kernel) (rfl) rfl (Nat.le_of_ble_eq_true rfl) dX11_read_47 (mwS_v11 hs6) (fun H locs hP hD hS => ?_)
    refine lv_aload_n hx hb dX11_read_50 rfl (lv_at hl 0 rfl) ?_
    refine lv_iconst (v := 0) hx hb dX11_read_51 (by decide) ?_
    obtain ⟨s7, hs8, hB⟩ := letS_inv hB
    refine q_put (ty := .int) (w2 := (mwS cB cI cJ cZ h a s7)) tyX11 tyX11_ok nmX11 C inX11_read_X11 hK hP hD hS 0 rfl rfl 12 (by decide) rfl LX11_read_212 rfl (by decide +kernel) (rfl) rfl (Nat.le_of_ble_eq_true rfl) dX11_read_52 (mwS_v12 hs8) (fun H locs hP hD hS => ?_)
    refine lv_aload_n hx hb dX11_read_55 rfl (lv_at hl 0 rfl) ?_
    refine lv_iconst (v := 0) hx hb dX11_read_56 (by decide) ?_
    obtain ⟨s9, hs10, hB⟩ := letS_inv hB
    refine q_put (ty := .int) (w2 := (mwS cB cI cJ cZ h a s9)) tyX11 tyX11_ok nmX11 C inX11_read_X11 hK hP hD hS 0 rfl rfl 13 (by decide) rfl LX11_read_185 rfl (by decide +kernel) (rfl) rfl (Nat.le_of_ble_eq_true rfl) dX11_read_57 (mwS_v13 hs10) (fun H locs hP hD hS => ?_)
    refine lv_aload_n hx hb dX11_read_60 rfl (lv_at hl 0 rfl) ?_
    refine lv_iconst (v := 0) hx hb dX11_read_61 (by decide) ?_
    obtain ⟨s11, hs12, hB⟩ := letS_inv hB
    refine q_put (ty := .int) (w2 := (mwS cB cI cJ cZ h a s11)) tyX11 tyX11_ok nmX11 C inX11_read_X11 hK hP hD hS 0 rfl rfl 15 (by decide) rfl LX11_read_194 rfl (by decide +kernel) (rfl) rfl (Nat.le_of_ble_eq_true rfl) dX11_read_62 (mwS_v15 hs12) (fun H locs hP hD hS => ?_)
    refine lv_aload_n hx hb dX11_read_65 rfl (lv_at hl 0 rfl) ?_
    refine lv_iconst (v := 1) hx hb dX11_read_66 (by decide) ?_
    refine lv_aload_n hx hb dX11_read_67 rfl (lv_at hl 0 rfl) ?_
    refine q_get (v := .int (s11.v 18)) C inX11_read_X11 hK hP 0 rfl rfl 18 (by decide) rfl LX11_read_215 rfl dX11_read_68 ?_
    refine lv_isub hx hb dX11_read_71 ?_
    obtain ⟨s13, hs14, hB⟩ := letS_inv hB
    refine q_put (ty := .int) (w2 := (mwS cB cI cJ cZ h a s13)) tyX11 tyX11_ok nmX11 C inX11_read_X11 hK hP hD hS 0 rfl rfl 19 (by decide) rfl LX11_read_218 rfl (by decide +kernel) (rfl) rfl (Nat.le_of_ble_eq_true rfl) dX11_read_72 (mwS_v19 hs14) (fun H locs hP hD hS => ?_)
    refine lv_aload_n hx hb dX11_read_75 rfl (lv_at hl 0 rfl) ?_
    refine lv_aload_n hx hb dX11_read_76 rfl (lv_at hl 0 rfl) ?_
    refine q_get (v := .int (s13.v 19)) C inX11_read_X11 hK hP 0 rfl rfl 19 (by decide) rfl LX11_read_218 rfl dX11_read_77 ?_
    obtain ⟨s15, hc, hB⟩ := bindP_inv hB
    refine q_govF (va_runV (As := [.int (s13.v 19)]) (rest := []) C (cr_plain hc _) (cwV 1 hts gX11_read_X11_plain rfl rfl rfl (by decide +kernel) ⟨Nat.le_of_ble_eq_true rfl, Nat.le_of_ble_eq_true rfl⟩) (q_preV hK hP (ci := 11) (q0 := 0) rfl rfl rfl (q_preF hN hK hP hD)) rfl rfl hl.1 rfl (lv_room (Nat.le_of_ble_eq_true rfl)) dX11_read_80 ⟨Nat.le_of_ble_eq_true rfl, Nat.le_of_ble_eq_true rfl⟩) hD hS hA (fun w1 H locs hw hP hD hS => ?_)
    subst hw
    refine lv_aload_n hx hb dX11_read_83 rfl (lv_at hl 0 rfl) ?_
    refine lv_sipush (v := 130) hx hb dX11_read_84 (by decide) ?_
    refine lv_aload_n hx hb dX11_read_87 rfl (lv_at hl 0 rfl) ?_
    refine q_get (v := .int (s15.v 19)) C inX11_read_X11 hK hP 0 rfl rfl 19 (by decide) rfl LX11_read_218 rfl dX11_read_88 ?_
    refine lv_imul hx hb dX11_read_91 ?_
    obtain ⟨s16, hs17, hB⟩ := letS_inv hB
    refine q_put (ty := .int) (w2 := (mwS cB cI cJ cZ h a s16)) tyX11 tyX11_ok nmX11 C inX11_read_X11 hK hP hD hS 0 rfl rfl 29 (by decide) rfl LX11_read_221 rfl (by decide +kernel) (rfl) rfl (Nat.le_of_ble_eq_true rfl) dX11_read_92 (mwS_v29 hs17) (fun H locs hP hD hS => ?_)
    refine lv_aload_n hx hb dX11_read_95 rfl (lv_at hl 0 rfl) ?_
    refine lv_sipush (v := 420) hx hb dX11_read_96 (by decide) ?_
    refine lv_aload_n hx hb dX11_read_99 rfl (lv_at hl 0 rfl) ?_
    refine q_get (v := .int (s16.v 19)) C inX11_read_X11 hK hP 0 rfl rfl 19 (by decide) rfl LX11_read_218 rfl dX11_read_100 ?_
    refine lv_imul hx hb dX11_read_103 ?_
    obtain ⟨s18, hs19, hB⟩ := letS_inv hB
    refine q_put (ty := .int) (w2 := (mwS cB cI cJ cZ h a s18)) tyX11 tyX11_ok nmX11 C inX11_read_X11 hK hP hD hS 0 rfl rfl 35 (by decide) rfl LX11_read_224 rfl (by decide +kernel) (rfl) rfl (Nat.le_of_ble_eq_true rfl) dX11_read_104 (mwS_v35 hs19) (fun H locs hP hD hS => ?_)
    exact br_read_107L fu _ hB p e s0 m below meth c A E H locs ls hP hD hS (lv_sub hl [0] rfl)
  · have hB := if_n hB c1
    refine lv_aload_n hx hb dX11_read_18 rfl (lv_at hl 0 rfl) ?_
    refine q_get (v := .ref (a 3)) C inX11_read_X11 hK hP 0 rfl rfl 3 (by decide) rfl LX11_read_17 rfl dX11_read_19 ?_
    refine lv_iload_n hx hb dX11_read_22 rfl (lv_at hl 1 rfl) ?_
    refine lv_aload_n hx hb dX11_read_23 rfl (lv_at hl 0 rfl) ?_
    refine q_get (v := .ref (a 1)) C inX11_read_X11 hK hP 0 rfl rfl 1 (by decide) rfl LX11_read_13 rfl dX11_read_24 ?_
    refine lv_iload_n hx hb dX11_read_27 rfl (lv_at hl 1 rfl) ?_
    obtain ⟨g20, hB⟩ := guard_inv hB
    refine q_bald (x := (s.f 1 (Int32.toNatClampNeg x1))) C hK hP 1 0 rfl rfl (vpb_in g20) dX11_read_28 rfl ?_
    obtain ⟨g21, hB⟩ := guard_inv hB
    obtain ⟨s22, hs23, hB⟩ := letS_inv hB
    refine q_bast (f2 := (upd (s.f 3) (Int32.toNatClampNeg x1) (vp_nar .byte (s.f 1 (Int32.toNatClampNeg x1))))) (w2 := (mwS cB cI cJ cZ h a s22)) C hK hP hD hS 2 0 rfl rfl (vpb_in g21) dX11_read_29 rfl (mwS_f3 hs23) (fun H locs hP hD hS => ?_)
    refine lv_iinc (v := (x1 + 1)) (lv' := [(1, .int (x1 + 1)), (0, .ref h)]) hx hb dX11_read_30 hl (k := 1) rfl (rfl) (by decide) rfl (fun ls hl => ?_)
    refine lv_goto (tgt := 10) hx hb dX11_read_33 (by decide) ?_
    exact hk10 _ _ hB p e s0 m below meth c A E H locs ls hP hD hS (lv_sub hl [1, 0] rfl)
theorem br_read_10L {l : Launch} {dC : Nat → ClassId} {dI : Nat → Nat → Nat} {cB cI cJ cZ cS : ClassId} {h : Nat} {a : Nat → Nat} {as : List Value} {r : Int32} {s' : RS} : ∀ (n : Nat) (s : RS) (x1 : Int32), r_read_10L n s x1 = some (r, s') → BlkI l yX11_read wsX11_read ({ frames := 7, cells := 0, slots := 0, locals := 147 }) cX11_read 2 (some .int) (dC, dI) (tysA cB cI cJ cZ cS) as 10 (mwS cB cI cJ cZ h a s) [(0, .ref h), (1, .int x1)] [] (fun x u => x = r ∧ u = (mwS cB cI cJ cZ h a s')) := by
  intro n
  induction n with
  | zero => intro s x1 hB; exact none_ne hB
  | succ n ih => intro s x1 hB; exact br_read_10 ih _ _ hB
set_option maxHeartbeats 4000000 in
set_option maxRecDepth 100000 in
theorem br_read {l : Launch} {dC : Nat → ClassId} {dI : Nat → Nat → Nat} {cB cI cJ cZ cS : ClassId} {h : Nat} {a : Nat → Nat} {as : List Value} {r : Int32} {s' : RS} (s : RS) (hB : r_read s = some (r, s')) : BlkI l yX11_read wsX11_read ({ frames := 7, cells := 0, slots := 0, locals := 147 }) cX11_read 2 (some .int) (dC, dI) (tysA cB cI cJ cZ cS) as 0 (mwS cB cI cJ cZ h a s) [(0, .ref h)] [] (fun x u => x = r ∧ u = (mwS cB cI cJ cZ h a s')) := by
  intro p e s0 m below meth c A E H locs ls hP hD hS hl
  obtain ⟨C, hr, hlocks, hA, hK, hN⟩ := id E
  obtain ⟨hx, hb, hml, hown, hts⟩ := id C
  unfold r_read at hB
  refine lv_aload_n hx hb dX11_read_0 rfl (lv_at hl 0 rfl) ?_
  refine lv_aload_n hx hb dX11_read_1 rfl (lv_at hl 0 rfl) ?_
  refine q_get (v := .int (s.v 2)) C inX11_read_X11 hK hP 0 rfl rfl 2 (by decide) rfl LX11_read_148 rfl dX11_read_2 ?_
  obtain ⟨s1, hs2, hB⟩ := letS_inv hB
  refine q_put (ty := .int) (w2 := (mwS cB cI cJ cZ h a s1)) tyX11 tyX11_ok nmX11 C inX11_read_X11 hK hP hD hS 0 rfl rfl 4 (by decide) rfl LX11_read_154 rfl (by decide +kernel) (rfl) rfl (Nat.le_of_ble_eq_true rfl) dX11_read_5 (mwS_v4 hs2) (fun H locs hP hD hS => ?_)
  refine lv_iconst (v := 0) hx hb dX11_read_8 (by decide) ?_
  refine lv_istore_n (lv' := [(1, .int 0), (0, .ref h)]) hx hb dX11_read_9 rfl hl (by decide) rfl (fun ls hl => ?_)
  exact br_read_10L fu _ _ hB p e s0 m below meth c A E H locs ls hP hD hS (lv_sub hl [1, 0] rfl)
theorem cr_read {l : Launch} {dC : Nat → ClassId} {dI : Nat → Nat → Nat} {cB cI cJ cZ cS : ClassId} {h : Nat} {a : Nat → Nat} {r : Int32} {s' : RS} {s : RS} (hB : r_read s = some (r, s')) : CI l yX11_read wsX11_read ({ frames := 7, cells := 0, slots := 0, locals := 147 }) (dC, dI) (tysA cB cI cJ cZ cS) (mwS cB cI cJ cZ h a s) [.ref h] (fun x u => x = r ∧ u = (mwS cB cI cJ cZ h a s')) :=
  CI_of (cc := cX11_read) (maxL := 2) (ret := (some .int)) (by decide) rfl (Nat.le_of_ble_eq_true rfl) (br_read _ hB)
theorem LX11_place_37 : Cond.fieldLink RX11 37 "GuessFerryModel" "place" "I" ∈ wsX11_place := (List.mem_cons_of_mem _ (List.mem_append_left _ (List.mem_of_getElem? (i := 0) rfl)))
theorem inX11_place_X11 : ∀ w ∈ u_ws RX11 TX11 58, w ∈ wsX11_place := fun _ h => List.mem_cons_of_mem _ (List.mem_append_right _ h)
set_option maxHeartbeats 4000000 in
set_option maxRecDepth 100000 in
theorem br_place {l : Launch} {dC : Nat → ClassId} {dI : Nat → Nat → Nat} {cB cI cJ cZ cS : ClassId} {h : Nat} {a : Nat → Nat} {as : List Value} {r : Int32} {s' : RS} (s : RS) (hB : r_place s = some (r, s')) : BlkI l yX11_place wsX11_place ({ frames := 0, cells := 0, slots := 0, locals := 0 }) cX11_place 1 (some .int) (dC, dI) (tysA cB cI cJ cZ cS) as 0 (mwS cB cI cJ cZ h a s) [(0, .ref h)] [] (fun x u => x = r ∧ u = (mwS cB cI cJ cZ h a s')) := by
  intro p e s0 m below meth c A E H locs ls hP hD hS hl
  obtain ⟨C, hr, hlocks, hA, hK, hN⟩ := id E
  obtain ⟨hx, hb, hml, hown, hts⟩ := id C
  unfold r_place at hB
  refine lv_aload_n hx hb dX11_place_0 rfl (lv_at hl 0 rfl) ?_
  refine q_get (v := .int (s.v 17)) C inX11_place_X11 hK hP 0 rfl rfl 17 (by decide) rfl LX11_place_37 rfl dX11_place_1 ?_
  exact q_iret C hr hlocks hK hP hD hS (Nat.le_of_ble_eq_true rfl) (Nat.le_of_ble_eq_true rfl) dX11_place_4 (by cases hB; exact ⟨rfl, rfl⟩)
theorem cr_place {l : Launch} {dC : Nat → ClassId} {dI : Nat → Nat → Nat} {cB cI cJ cZ cS : ClassId} {h : Nat} {a : Nat → Nat} {r : Int32} {s' : RS} {s : RS} (hB : r_place s = some (r, s')) : CI l yX11_place wsX11_place ({ frames := 0, cells := 0, slots := 0, locals := 0 }) (dC, dI) (tysA cB cI cJ cZ cS) (mwS cB cI cJ cZ h a s) [.ref h] (fun x u => x = r ∧ u = (mwS cB cI cJ cZ h a s')) :=
  CI_of (cc := cX11_place) (maxL := 1) (ret := (some .int)) (by decide) rfl (Nat.le_of_ble_eq_true rfl) (br_place _ hB)
theorem LX11_termOf_277 : Cond.fieldLink RX11 277 "GuessFerryModel" "isBroken" "Z" ∈ wsX11_termOf := (List.mem_cons_of_mem _ (List.mem_append_left _ (List.mem_of_getElem? (i := 4) rfl)))
theorem LX11_termOf_83 : Cond.fieldLink RX11 83 "GuessFerryModel" "code" "[I" ∈ wsX11_termOf := (List.mem_cons_of_mem _ (List.mem_append_left _ (List.mem_of_getElem? (i := 0) rfl)))
theorem LX11_termOf_86 : Cond.fieldLink RX11 86 "GuessFerryModel" "codeInt" "[I" ∈ wsX11_termOf := (List.mem_cons_of_mem _ (List.mem_append_left _ (List.mem_of_getElem? (i := 2) rfl)))
theorem LX11_termOf_92 : Cond.fieldLink RX11 92 "GuessFerryModel" "variables" "[I" ∈ wsX11_termOf := (List.mem_cons_of_mem _ (List.mem_append_left _ (List.mem_of_getElem? (i := 3) rfl)))
theorem LX11_termOf_95 : Cond.fieldLink RX11 95 "GuessFerryModel" "pile" "[I" ∈ wsX11_termOf := (List.mem_cons_of_mem _ (List.mem_append_left _ (List.mem_of_getElem? (i := 1) rfl)))
theorem inX11_termOf_X11 : ∀ w ∈ u_ws RX11 TX11 58, w ∈ wsX11_termOf := fun _ h => List.mem_cons_of_mem _ (List.mem_append_right _ h)
set_option maxHeartbeats 4000000 in
set_option maxRecDepth 100000 in
theorem br_termOf_159 {l : Launch} {dC : Nat → ClassId} {dI : Nat → Nat → Nat} {cB cI cJ cZ cS : ClassId} {h : Nat} {a : Nat → Nat} {as : List Value} {r : Int32} {s' : RS} {k5 : RS → Int32 → Int32 → Int32 → Option (Int32 × RS)} (hk5 : ∀ (s : RS) (x2 : Int32) (x3 : Int32) (x4 : Int32), k5 s x2 x3 x4 = some (r, s') → BlkI l yX11_termOf wsX11_termOf ({ frames := 0, cells := 0, slots := 0, locals := 0 }) cX11_termOf 8 (some .int) (dC, dI) (tysA cB cI cJ cZ cS) as 5 (mwS cB cI cJ cZ h a s) [(0, .ref h), (2, .int x2), (3, .int x3), (4, .int x4)] [] (fun x u => x = r ∧ u = (mwS cB cI cJ cZ h a s'))) (s : RS) (x2 : Int32) (x3 : Int32) (x4 : Int32) (hB : r_termOf_159 k5 s x2 x3 x4 = some (r, s')) : BlkI l yX11_termOf wsX11_termOf ({ frames := 0, cells := 0, slots := 0, locals := 0 }) cX11_termOf 8 (some .int) (dC, dI) (tysA cB cI cJ cZ cS) as 159 (mwS cB cI cJ cZ h a s) [(0, .ref h), (2, .int x2), (3, .int x3), (4, .int x4)] [] (fun x u => x = r ∧ u = (mwS cB cI cJ cZ h a s')) := by
  intro p e s0 m below meth c A E H locs ls hP hD hS hl
  obtain ⟨C, hr, hlocks, hA, hK, hN⟩ := id E
  obtain ⟨hx, hb, hml, hown, hts⟩ := id C
  unfold r_termOf_159 at hB
  refine lv_iinc (v := (x4 + 1)) (lv' := [(4, .int (x4 + 1)), (0, .ref h), (2, .int x2), (3, .int x3)]) hx hb dX11_termOf_159 hl (k := 3) rfl (rfl) (by decide) rfl (fun ls hl => ?_)
  refine lv_goto (tgt := 5) hx hb dX11_termOf_162 (by decide) ?_
  exact hk5 _ _ _ _ hB p e s0 m below meth c A E H locs ls hP hD hS (lv_sub hl [1, 2, 3, 0] rfl)
set_option maxHeartbeats 4000000 in
set_option maxRecDepth 100000 in
theorem br_termOf_158 {l : Launch} {dC : Nat → ClassId} {dI : Nat → Nat → Nat} {cB cI cJ cZ cS : ClassId} {h : Nat} {a : Nat → Nat} {as : List Value} {r : Int32} {s' : RS} {k5 : RS → Int32 → Int32 → Int32 → Option (Int32 × RS)} (hk5 : ∀ (s : RS) (x2 : Int32) (x3 : Int32) (x4 : Int32), k5 s x2 x3 x4 = some (r, s') → BlkI l yX11_termOf wsX11_termOf ({ frames := 0, cells := 0, slots := 0, locals := 0 }) cX11_termOf 8 (some .int) (dC, dI) (tysA cB cI cJ cZ cS) as 5 (mwS cB cI cJ cZ h a s) [(0, .ref h), (2, .int x2), (3, .int x3), (4, .int x4)] [] (fun x u => x = r ∧ u = (mwS cB cI cJ cZ h a s'))) (s : RS) (x2 : Int32) (x3 : Int32) (x4 : Int32) (t0 : Int32) (t1 : Int32) (hB : r_termOf_158 k5 s x2 x3 x4 t0 t1 = some (r, s')) : BlkI l yX11_termOf wsX11_termOf ({ frames := 0, cells := 0, slots := 0, locals := 0 }) cX11_termOf 8 (some .int) (dC, dI) (tysA cB cI cJ cZ cS) as 158 (mwS cB cI cJ cZ h a s) [(0, .ref h), (2, .int x2), (3, .int x3), (4, .int x4)] [.int t0, .int t1, .ref (a 41)] (fun x u => x = r ∧ u = (mwS cB cI cJ cZ h a s')) := by
  intro p e s0 m below meth c A E H locs ls hP hD hS hl
  obtain ⟨C, hr, hlocks, hA, hK, hN⟩ := id E
  obtain ⟨hx, hb, hml, hown, hts⟩ := id C
  unfold r_termOf_158 at hB
  obtain ⟨g1, hB⟩ := guard_inv hB
  obtain ⟨s2, hs3, hB⟩ := letS_inv hB
  refine q_iast (f2 := (upd (s.f 41) (Int32.toNatClampNeg t1) t0)) (w2 := (mwS cB cI cJ cZ h a s2)) C hK hP hD hS 26 1 rfl rfl (vpb_in g1) dX11_termOf_158 rfl (mwS_f41 hs3) (fun H locs hP hD hS => ?_)
  exact br_termOf_159 (hk5) _ _ _ _ hB p e s0 m below meth c A E H locs ls hP hD hS (lv_sub hl [0, 1, 2, 3] rfl)
set_option maxHeartbeats 4000000 in
set_option maxRecDepth 100000 in
theorem br_termOf_104 {l : Launch} {dC : Nat → ClassId} {dI : Nat → Nat → Nat} {cB cI cJ cZ cS : ClassId} {h : Nat} {a : Nat → Nat} {as : List Value} {r : Int32} {s' : RS} {k5 : RS → Int32 → Int32 → Int32 → Option (Int32 × RS)} (hk5 : ∀ (s : RS) (x2 : Int32) (x3 : Int32) (x4 : Int32), k5 s x2 x3 x4 = some (r, s') → BlkI l yX11_termOf wsX11_termOf ({ frames := 0, cells := 0, slots := 0, locals := 0 }) cX11_termOf 8 (some .int) (dC, dI) (tysA cB cI cJ cZ cS) as 5 (mwS cB cI cJ cZ h a s) [(0, .ref h), (2, .int x2), (3, .int x3), (4, .int x4)] [] (fun x u => x = r ∧ u = (mwS cB cI cJ cZ h a s'))) (s : RS) (x2 : Int32) (x3 : Int32) (x4 : Int32) (x5 : Int32) (x6 : Int32) (x7 : Int32) (hB : r_termOf_104 k5 s x2 x3 x4 x5 x6 x7 = some (r, s')) : BlkI l yX11_termOf wsX11_termOf ({ frames := 0, cells := 0, slots := 0, locals := 0 }) cX11_termOf 8 (some .int) (dC, dI) (tysA cB cI cJ cZ cS) as 104 (mwS cB cI cJ cZ h a s) [(0, .ref h), (2, .int x2), (3, .int x3), (4, .int x4), (5, .int x5), (6, .int x6), (7, .int x7)] [] (fun x u => x = r ∧ u = (mwS cB cI cJ cZ h a s')) := by
  intro p e s0 m below meth c A E H locs ls hP hD hS hl
  obtain ⟨C, hr, hlocks, hA, hK, hN⟩ := id E
  obtain ⟨hx, hb, hml, hown, hts⟩ := id C
  unfold r_termOf_104 at hB
  refine lv_aload_n hx hb dX11_termOf_104 rfl (lv_at hl 0 rfl) ?_
  refine q_get (v := .ref (a 41)) C inX11_termOf_X11 hK hP 0 rfl rfl 41 (by decide) rfl LX11_termOf_95 rfl dX11_termOf_105 ?_
  refine lv_iload_n hx hb dX11_termOf_108 rfl (lv_at hl 2 rfl) ?_
  refine lv_iconst (v := 1) hx hb dX11_termOf_109 (by decide) ?_
  refine lv_isub hx hb dX11_termOf_110 ?_
  refine lv_iload hx hb dX11_termOf_111 (lv_at hl 4 rfl) ?_
  refine lv_iconst (v := 2) hx hb dX11_termOf_113 (by decide) ?_
  refine lv_icmp_ne (tgt := 125) hx hb dX11_termOf_114 (by decide) (fun c1 => ?_) (fun c1 => ?_)
  · have hB := if_n hB c1
    refine lv_iload hx hb dX11_termOf_125 (lv_at hl 4 rfl) ?_
    refine lv_iconst (v := 3) hx hb dX11_termOf_127 (by decide) ?_
    refine lv_icmp_ne (tgt := 139) hx hb dX11_termOf_128 (by decide) (fun c2 => ?_) (fun c2 => ?_)
    · have hB := if_n hB c2
      refine lv_iload hx hb dX11_termOf_139 (lv_at hl 4 rfl) ?_
      refine lv_iconst (v := 4) hx hb dX11_termOf_141 (by decide) ?_
      refine lv_icmp_ne (tgt := 153) hx hb dX11_termOf_142 (by decide) (fun c3 => ?_) (fun c3 => ?_)
      · have hB := if_n hB c3
        refine lv_iload hx hb dX11_termOf_153 (lv_at hl 5 rfl) ?_
        refine lv_iload hx hb dX11_termOf_155 (lv_at hl 6 rfl) ?_
        obtain ⟨z4, hB⟩ := guard_inv hB
        refine lv_idiv hx hb dX11_termOf_157 z4 ?_
        exact br_termOf_158 (hk5) _ _ _ _ _ _ hB p e s0 m below meth c A E H locs ls hP hD hS (lv_sub hl [0, 1, 2, 3] rfl)
      · have hB := if_p hB c3
        refine lv_iload hx hb dX11_termOf_145 (lv_at hl 5 rfl) ?_
        refine lv_iload hx hb dX11_termOf_147 (lv_at hl 6 rfl) ?_
        refine lv_imul hx hb dX11_termOf_149 ?_
        refine lv_goto (tgt := 158) hx hb dX11_termOf_150 (by decide) ?_
        exact br_termOf_158 (hk5) _ _ _ _ _ _ hB p e s0 m below meth c A E H locs ls hP hD hS (lv_sub hl [0, 1, 2, 3] rfl)
    · have hB := if_p hB c2
      refine lv_iload hx hb dX11_termOf_131 (lv_at hl 5 rfl) ?_
      refine lv_iload hx hb dX11_termOf_133 (lv_at hl 6 rfl) ?_
      refine lv_isub hx hb dX11_termOf_135 ?_
      refine lv_goto (tgt := 158) hx hb dX11_termOf_136 (by decide) ?_
      exact br_termOf_158 (hk5) _ _ _ _ _ _ hB p e s0 m below meth c A E H locs ls hP hD hS (lv_sub hl [0, 1, 2, 3] rfl)
  · have hB := if_p hB c1
    refine lv_iload hx hb dX11_termOf_117 (lv_at hl 5 rfl) ?_
    refine lv_iload hx hb dX11_termOf_119 (lv_at hl 6 rfl) ?_
    refine lv_iadd hx hb dX11_termOf_121 ?_
    refine lv_goto (tgt := 158) hx hb dX11_termOf_122 (by decide) ?_
    exact br_termOf_158 (hk5) _ _ _ _ _ _ hB p e s0 m below meth c A E H locs ls hP hD hS (lv_sub hl [0, 1, 2, 3] rfl)
set_option maxHeartbeats 4000000 in
set_option maxRecDepth 100000 in
theorem br_termOf_58 {l : Launch} {dC : Nat → ClassId} {dI : Nat → Nat → Nat} {cB cI cJ cZ cS : ClassId} {h : Nat} {a : Nat → Nat} {as : List Value} {r : Int32} {s' : RS} {k5 : RS → Int32 → Int32 → Int32 → Option (Int32 × RS)} (hk5 : ∀ (s : RS) (x2 : Int32) (x3 : Int32) (x4 : Int32), k5 s x2 x3 x4 = some (r, s') → BlkI l yX11_termOf wsX11_termOf ({ frames := 0, cells := 0, slots := 0, locals := 0 }) cX11_termOf 8 (some .int) (dC, dI) (tysA cB cI cJ cZ cS) as 5 (mwS cB cI cJ cZ h a s) [(0, .ref h), (2, .int x2), (3, .int x3), (4, .int x4)] [] (fun x u => x = r ∧ u = (mwS cB cI cJ cZ h a s'))) (s : RS) (x2 : Int32) (x3 : Int32) (x4 : Int32) (t0 : Int32) (t1 : Int32) (hB : r_termOf_58 k5 s x2 x3 x4 t0 t1 = some (r, s')) : BlkI l yX11_termOf wsX11_termOf ({ frames := 0, cells := 0, slots := 0, locals := 0 }) cX11_termOf 8 (some .int) (dC, dI) (tysA cB cI cJ cZ cS) as 58 (mwS cB cI cJ cZ h a s) [(0, .ref h), (2, .int x2), (3, .int x3), (4, .int x4)] [.int t0, .int t1, .ref (a 41)] (fun x u => x = r ∧ u = (mwS cB cI cJ cZ h a s')) := by
  intro p e s0 m below meth c A E H locs ls hP hD hS hl
  obtain ⟨C, hr, hlocks, hA, hK, hN⟩ := id E
  obtain ⟨hx, hb, hml, hown, hts⟩ := id C
  unfold r_termOf_58 at hB
  obtain ⟨g1, hB⟩ := guard_inv hB
  obtain ⟨s2, hs3, hB⟩ := letS_inv hB
  refine q_iast (f2 := (upd (s.f 41) (Int32.toNatClampNeg t1) t0)) (w2 := (mwS cB cI cJ cZ h a s2)) C hK hP hD hS 26 1 rfl rfl (vpb_in g1) dX11_termOf_58 rfl (mwS_f41 hs3) (fun H locs hP hD hS => ?_)
  refine lv_iinc (v := (x3 + 1)) (lv' := [(3, .int (x3 + 1)), (0, .ref h), (2, .int x2), (4, .int x4)]) hx hb dX11_termOf_59 hl (k := 2) rfl (rfl) (by decide) rfl (fun ls hl => ?_)
  refine lv_goto (tgt := 159) hx hb dX11_termOf_62 (by decide) ?_
  exact br_termOf_159 (hk5) _ _ _ _ hB p e s0 m below meth c A E H locs ls hP hD hS (lv_sub hl [1, 2, 0, 3] rfl)
set_option maxHeartbeats 4000000 in
set_option maxRecDepth 100000 in
theorem br_termOf_5 {l : Launch} {dC : Nat → ClassId} {dI : Nat → Nat → Nat} {cB cI cJ cZ cS : ClassId} {h : Nat} {a : Nat → Nat} {as : List Value} {r : Int32} {s' : RS} {k5 : RS → Int32 → Int32 → Int32 → Option (Int32 × RS)} (hk5 : ∀ (s : RS) (x2 : Int32) (x3 : Int32) (x4 : Int32), k5 s x2 x3 x4 = some (r, s') → BlkI l yX11_termOf wsX11_termOf ({ frames := 0, cells := 0, slots := 0, locals := 0 }) cX11_termOf 8 (some .int) (dC, dI) (tysA cB cI cJ cZ cS) as 5 (mwS cB cI cJ cZ h a s) [(0, .ref h), (2, .int x2), (3, .int x3), (4, .int x4)] [] (fun x u => x = r ∧ u = (mwS cB cI cJ cZ h a s'))) (s : RS) (x2 : Int32) (x3 : Int32) (x4 : Int32) (hB : r_termOf_5 k5 s x2 x3 x4 = some (r, s')) : BlkI l yX11_termOf wsX11_termOf ({ frames := 0, cells := 0, slots := 0, locals := 0 }) cX11_termOf 8 (some .int) (dC, dI) (tysA cB cI cJ cZ cS) as 5 (mwS cB cI cJ cZ h a s) [(0, .ref h), (2, .int x2), (3, .int x3), (4, .int x4)] [] (fun x u => x = r ∧ u = (mwS cB cI cJ cZ h a s')) := by
  intro p e s0 m below meth c A E H locs ls hP hD hS hl
  obtain ⟨C, hr, hlocks, hA, hK, hN⟩ := id E
  obtain ⟨hx, hb, hml, hown, hts⟩ := id C
  unfold r_termOf_5 at hB
  refine lv_iload hx hb dX11_termOf_5 (lv_at hl 3 rfl) ?_
  refine lv_iload_n hx hb dX11_termOf_7 rfl (lv_at hl 1 rfl) ?_
  refine lv_icmp_ge (tgt := 165) hx hb dX11_termOf_8 (by decide) (fun c1 => ?_) (fun c1 => ?_)
  · have hB := if_p hB c1
    refine lv_aload_n hx hb dX11_termOf_165 rfl (lv_at hl 0 rfl) ?_
    refine q_get (v := .ref (a 41)) C inX11_termOf_X11 hK hP 0 rfl rfl 41 (by decide) rfl LX11_termOf_95 rfl dX11_termOf_166 ?_
    refine lv_iconst (v := 0) hx hb dX11_termOf_169 (by decide) ?_
    refine q_iald (x := (s.f 41 0)) C hK hP 26 1 rfl rfl (vp_lit (by decide +kernel)) dX11_termOf_170 rfl ?_
    exact q_iret C hr hlocks hK hP hD hS (Nat.le_of_ble_eq_true rfl) (Nat.le_of_ble_eq_true rfl) dX11_termOf_171 (by cases hB; exact ⟨rfl, rfl⟩)
  · have hB := if_n hB c1
    refine lv_aload_n hx hb dX11_termOf_11 rfl (lv_at hl 0 rfl) ?_
    refine q_get (v := .ref (a 36)) C inX11_termOf_X11 hK hP 0 rfl rfl 36 (by decide) rfl LX11_termOf_83 rfl dX11_termOf_12 ?_
    refine lv_iload hx hb dX11_termOf_15 (lv_at hl 3 rfl) ?_
    obtain ⟨g2, hB⟩ := guard_inv hB
    refine q_iald (x := (s.f 36 (Int32.toNatClampNeg x4))) C hK hP 22 1 rfl rfl (vpb_in g2) dX11_termOf_17 rfl ?_
    refine lv_istore (lv' := [(5, .int (s.f 36 (Int32.toNatClampNeg x4))), (0, .ref h), (2, .int x2), (3, .int x3), (4, .int x4)]) hx hb dX11_termOf_18 hl (by decide) rfl (fun ls hl => ?_)
    refine lv_iload hx hb dX11_termOf_20 (lv_at hl 0 rfl) ?_
    refine lv_iconst (v := 2) hx hb dX11_termOf_22 (by decide) ?_
    refine lv_icmp_ge (tgt := 65) hx hb dX11_termOf_23 (by decide) (fun c3 => ?_) (fun c3 => ?_)
    · have hB := if_p hB c3
      refine lv_iinc (v := (x3 + (-1))) (lv' := [(3, .int (x3 + (-1))), (5, .int (s.f 36 (Int32.toNatClampNeg x4))), (0, .ref h), (2, .int x2), (4, .int x4)]) hx hb dX11_termOf_65 hl (k := 3) rfl (rfl) (by decide) rfl (fun ls hl => ?_)
      refine lv_aload_n hx hb dX11_termOf_68 rfl (lv_at hl 2 rfl) ?_
      refine q_get (v := .ref (a 41)) C inX11_termOf_X11 hK hP 0 rfl rfl 41 (by decide) rfl LX11_termOf_95 rfl dX11_termOf_69 ?_
      refine lv_iload_n hx hb dX11_termOf_72 rfl (lv_at hl 0 rfl) ?_
      refine lv_iconst (v := 1) hx hb dX11_termOf_73 (by decide) ?_
      refine lv_isub hx hb dX11_termOf_74 ?_
      obtain ⟨g4, hB⟩ := guard_inv hB
      refine q_iald (x := (s.f 41 (Int32.toNatClampNeg ((x3 + (-1)) - 1)))) C hK hP 26 1 rfl rfl (vpb_in g4) dX11_termOf_75 rfl ?_
      refine lv_istore (lv' := [(6, .int (s.f 41 (Int32.toNatClampNeg ((x3 + (-1)) - 1)))), (3, .int (x3 + (-1))), (5, .int (s.f 36 (Int32.toNatClampNeg x4))), (0, .ref h), (2, .int x2), (4, .int x4)]) hx hb dX11_termOf_76 hl (by decide) rfl (fun ls hl => ?_)
      refine lv_aload_n hx hb dX11_termOf_78 rfl (lv_at hl 3 rfl) ?_
      refine q_get (v := .ref (a 41)) C inX11_termOf_X11 hK hP 0 rfl rfl 41 (by decide) rfl LX11_termOf_95 rfl dX11_termOf_79 ?_
      refine lv_iload_n hx hb dX11_termOf_82 rfl (lv_at hl 1 rfl) ?_
      obtain ⟨g5, hB⟩ := guard_inv hB
      refine q_iald (x := (s.f 41 (Int32.toNatClampNeg (x3 + (-1))))) C hK hP 26 1 rfl rfl (vpb_in g5) dX11_termOf_83 rfl ?_
      refine lv_istore (lv' := [(7, .int (s.f 41 (Int32.toNatClampNeg (x3 + (-1))))), (6, .int (s.f 41 (Int32.toNatClampNeg ((x3 + (-1)) - 1)))), (3, .int (x3 + (-1))), (5, .int (s.f 36 (Int32.toNatClampNeg x4))), (0, .ref h), (2, .int x2), (4, .int x4)]) hx hb dX11_termOf_84 hl (by decide) rfl (fun ls hl => ?_)
      refine lv_iload hx hb dX11_termOf_86 (lv_at hl 3 rfl) ?_
      refine lv_iconst (v := 5) hx hb dX11_termOf_88 (by decide) ?_
      refine lv_icmp_ne (tgt := 104) hx hb dX11_termOf_89 (by decide) (fun c6 => ?_) (fun c6 => ?_)
      · have hB := if_n hB c6
        exact br_termOf_104 (hk5) _ _ _ _ _ _ _ hB p e s0 m below meth c A E H locs ls hP hD hS (lv_sub hl [4, 5, 2, 6, 3, 1, 0] rfl)
      · have hB := if_p hB c6
        refine lv_iload hx hb dX11_termOf_92 (lv_at hl 0 rfl) ?_
        refine lv_if_ne (tgt := 104) hx hb dX11_termOf_94 (by decide) (fun c7 => ?_) (fun c7 => ?_)
        · have hB := if_n hB c7
          exact br_termOf_104 (hk5) _ _ _ _ _ _ _ hB p e s0 m below meth c A E H locs ls hP hD hS (lv_sub hl [4, 5, 2, 6, 3, 1, 0] rfl)
        · have hB := if_p hB c7
          refine lv_aload_n hx hb dX11_termOf_97 rfl (lv_at hl 4 rfl) ?_
          refine lv_iconst (v := 1) hx hb dX11_termOf_98 (by decide) ?_
          obtain ⟨s8, hs9, hB⟩ := letS_inv hB
          refine q_put (ty := .boolean) (w2 := (mwS cB cI cJ cZ h a s8)) tyX11 tyX11_ok nmX11 C inX11_termOf_X11 hK hP hD hS 0 rfl rfl 42 (by decide) rfl LX11_termOf_277 rfl (by decide +kernel) (by decide +kernel) rfl (Nat.le_of_ble_eq_true rfl) dX11_termOf_99 (mwS_v42 hs9) (fun H locs hP hD hS => ?_)
          refine lv_iconst (v := 0) hx hb dX11_termOf_102 (by decide) ?_
          exact q_iret C hr hlocks hK hP hD hS (Nat.le_of_ble_eq_true rfl) (Nat.le_of_ble_eq_true rfl) dX11_termOf_103 (by cases hB; exact ⟨rfl, rfl⟩)
    · have hB := if_n hB c3
      refine lv_aload_n hx hb dX11_termOf_26 rfl (lv_at hl 1 rfl) ?_
      refine q_get (v := .ref (a 41)) C inX11_termOf_X11 hK hP 0 rfl rfl 41 (by decide) rfl LX11_termOf_95 rfl dX11_termOf_27 ?_
      refine lv_iload_n hx hb dX11_termOf_30 rfl (lv_at hl 3 rfl) ?_
      refine lv_iload hx hb dX11_termOf_31 (lv_at hl 0 rfl) ?_
      refine lv_if_ne (tgt := 46) hx hb dX11_termOf_33 (by decide) (fun c10 => ?_) (fun c10 => ?_)
      · have hB := if_n hB c10
        refine lv_aload_n hx hb dX11_termOf_46 rfl (lv_at hl 1 rfl) ?_
        refine q_get (v := .ref (a 40)) C inX11_termOf_X11 hK hP 0 rfl rfl 40 (by decide) rfl LX11_termOf_92 rfl dX11_termOf_47 ?_
        refine lv_aload_n hx hb dX11_termOf_50 rfl (lv_at hl 1 rfl) ?_
        refine q_get (v := .ref (a 37)) C inX11_termOf_X11 hK hP 0 rfl rfl 37 (by decide) rfl LX11_termOf_86 rfl dX11_termOf_51 ?_
        refine lv_iload hx hb dX11_termOf_54 (lv_at hl 4 rfl) ?_
        obtain ⟨g11, hB⟩ := guard_inv hB
        refine q_iald (x := (s.f 37 (Int32.toNatClampNeg x4))) C hK hP 23 1 rfl rfl (vpb_in g11) dX11_termOf_56 rfl ?_
        obtain ⟨g12, hB⟩ := guard_inv hB
        refine q_iald (x := (s.f 40 (Int32.toNatClampNeg (s.f 37 (Int32.toNatClampNeg x4))))) C hK hP 25 1 rfl rfl (vpb_in g12) dX11_termOf_57 rfl ?_
        exact br_termOf_58 (hk5) _ _ _ _ _ _ hB p e s0 m below meth c A E H locs ls hP hD hS (lv_sub hl [1, 2, 3, 4] rfl)
      · have hB := if_p hB c10
        refine lv_aload_n hx hb dX11_termOf_36 rfl (lv_at hl 1 rfl) ?_
        refine q_get (v := .ref (a 37)) C inX11_termOf_X11 hK hP 0 rfl rfl 37 (by decide) rfl LX11_termOf_86 rfl dX11_termOf_37 ?_
        refine lv_iload hx hb dX11_termOf_40 (lv_at hl 4 rfl) ?_
        obtain ⟨g13, hB⟩ := guard_inv hB
        refine q_iald (x := (s.f 37 (Int32.toNatClampNeg x4))) C hK hP 23 1 rfl rfl (vpb_in g13) dX11_termOf_42 rfl ?_
        refine lv_goto (tgt := 58) hx hb dX11_termOf_43 (by decide) ?_
        exact br_termOf_58 (hk5) _ _ _ _ _ _ hB p e s0 m below meth c A E H locs ls hP hD hS (lv_sub hl [1, 2, 3, 4] rfl)
theorem br_termOf_5L {l : Launch} {dC : Nat → ClassId} {dI : Nat → Nat → Nat} {cB cI cJ cZ cS : ClassId} {h : Nat} {a : Nat → Nat} {as : List Value} {r : Int32} {s' : RS} : ∀ (n : Nat) (s : RS) (x2 : Int32) (x3 : Int32) (x4 : Int32), r_termOf_5L n s x2 x3 x4 = some (r, s') → BlkI l yX11_termOf wsX11_termOf ({ frames := 0, cells := 0, slots := 0, locals := 0 }) cX11_termOf 8 (some .int) (dC, dI) (tysA cB cI cJ cZ cS) as 5 (mwS cB cI cJ cZ h a s) [(0, .ref h), (2, .int x2), (3, .int x3), (4, .int x4)] [] (fun x u => x = r ∧ u = (mwS cB cI cJ cZ h a s')) := by
  intro n
  induction n with
  | zero => intro s x2 x3 x4 hB; exact none_ne hB
  | succ n ih => intro s x2 x3 x4 hB; exact br_termOf_5 ih _ _ _ _ hB
set_option maxHeartbeats 4000000 in
set_option maxRecDepth 100000 in
theorem br_termOf {l : Launch} {dC : Nat → ClassId} {dI : Nat → Nat → Nat} {cB cI cJ cZ cS : ClassId} {h : Nat} {a : Nat → Nat} {as : List Value} {r : Int32} {s' : RS} (s : RS) (x1 : Int32) (x2 : Int32) (hB : r_termOf s x1 x2 = some (r, s')) : BlkI l yX11_termOf wsX11_termOf ({ frames := 0, cells := 0, slots := 0, locals := 0 }) cX11_termOf 8 (some .int) (dC, dI) (tysA cB cI cJ cZ cS) as 0 (mwS cB cI cJ cZ h a s) [(0, .ref h), (1, .int x1), (2, .int x2)] [] (fun x u => x = r ∧ u = (mwS cB cI cJ cZ h a s')) := by
  intro p e s0 m below meth c A E H locs ls hP hD hS hl
  obtain ⟨C, hr, hlocks, hA, hK, hN⟩ := id E
  obtain ⟨hx, hb, hml, hown, hts⟩ := id C
  unfold r_termOf at hB
  refine lv_iconst (v := 0) hx hb dX11_termOf_0 (by decide) ?_
  refine lv_istore_n (lv' := [(3, .int 0), (0, .ref h), (1, .int x1), (2, .int x2)]) hx hb dX11_termOf_1 rfl hl (by decide) rfl (fun ls hl => ?_)
  refine lv_iload_n hx hb dX11_termOf_2 rfl (lv_at hl 2 rfl) ?_
  refine lv_istore (lv' := [(4, .int x1), (3, .int 0), (0, .ref h), (1, .int x1), (2, .int x2)]) hx hb dX11_termOf_3 hl (by decide) rfl (fun ls hl => ?_)
  exact br_termOf_5L fu _ _ _ _ hB p e s0 m below meth c A E H locs ls hP hD hS (lv_sub hl [2, 4, 1, 0] rfl)
theorem cr_termOf {l : Launch} {dC : Nat → ClassId} {dI : Nat → Nat → Nat} {cB cI cJ cZ cS : ClassId} {h : Nat} {a : Nat → Nat} {r : Int32} {s' : RS} {s : RS} {x1 : Int32} {x2 : Int32} (hB : r_termOf s x1 x2 = some (r, s')) : CI l yX11_termOf wsX11_termOf ({ frames := 0, cells := 0, slots := 0, locals := 0 }) (dC, dI) (tysA cB cI cJ cZ cS) (mwS cB cI cJ cZ h a s) [.ref h, .int x1, .int x2] (fun x u => x = r ∧ u = (mwS cB cI cJ cZ h a s')) :=
  CI_of (cc := cX11_termOf) (maxL := 8) (ret := (some .int)) (by decide) rfl (Nat.le_of_ble_eq_true rfl) (br_termOf _ _ _ hB)
set_option maxHeartbeats 4000000 in
set_option maxRecDepth 100000 in
theorem br_in {l : Launch} {dC : Nat → ClassId} {dI : Nat → Nat → Nat} {cB cI cJ cZ cS : ClassId} {as : List Value} {r : Int32} (x0 : Int32) (x1 : Int32) (x2 : Int32) (hB : r_in x0 x1 x2 = some r) : BlkI l yX11_in wsX11_in ({ frames := 0, cells := 0, slots := 0, locals := 0 }) cX11_in 3 (some .boolean) (dC, dI) (tysA cB cI cJ cZ cS) as 0 [] [(0, .int x0), (1, .int x1), (2, .int x2)] [] (fun x _ => x = r) := by
  intro p e s0 m below meth c A E H locs ls hP hD hS hl
  obtain ⟨C, hr, hlocks, hA, hK, hN⟩ := id E
  obtain ⟨hx, hb, hml, hown, hts⟩ := id C
  unfold r_in at hB
  refine lv_iload_n hx hb dX11_in_0 rfl (lv_at hl 0 rfl) ?_
  refine lv_iload_n hx hb dX11_in_1 rfl (lv_at hl 1 rfl) ?_
  refine lv_icmp_lt (tgt := 14) hx hb dX11_in_2 (by decide) (fun c1 => ?_) (fun c1 => ?_)
  · have hB := if_p hB c1
    refine lv_iconst (v := 0) hx hb dX11_in_14 (by decide) ?_
    exact q_zret C hr hlocks (Or.inl rfl) hK hP hD hS (Nat.le_of_ble_eq_true rfl) (Nat.le_of_ble_eq_true rfl) dX11_in_15 (by cases hB; rfl)
  · have hB := if_n hB c1
    refine lv_iload_n hx hb dX11_in_5 rfl (lv_at hl 0 rfl) ?_
    refine lv_iload_n hx hb dX11_in_6 rfl (lv_at hl 2 rfl) ?_
    refine lv_icmp_gt (tgt := 14) hx hb dX11_in_7 (by decide) (fun c2 => ?_) (fun c2 => ?_)
    · have hB := if_p hB c2
      refine lv_iconst (v := 0) hx hb dX11_in_14 (by decide) ?_
      exact q_zret C hr hlocks (Or.inl rfl) hK hP hD hS (Nat.le_of_ble_eq_true rfl) (Nat.le_of_ble_eq_true rfl) dX11_in_15 (by cases hB; rfl)
    · have hB := if_n hB c2
      refine lv_iconst (v := 1) hx hb dX11_in_10 (by decide) ?_
      refine lv_goto (tgt := 15) hx hb dX11_in_11 (by decide) ?_
      exact q_zret C hr hlocks (Or.inr rfl) hK hP hD hS (Nat.le_of_ble_eq_true rfl) (Nat.le_of_ble_eq_true rfl) dX11_in_15 (by cases hB; rfl)
theorem cr_in {l : Launch} {dC : Nat → ClassId} {dI : Nat → Nat → Nat} {cB cI cJ cZ cS : ClassId} {r : Int32} {x0 : Int32} {x1 : Int32} {x2 : Int32} (hB : r_in x0 x1 x2 = some r) : CI l yX11_in wsX11_in ({ frames := 0, cells := 0, slots := 0, locals := 0 }) (dC, dI) (tysA cB cI cJ cZ cS) [] [.int x0, .int x1, .int x2] (fun x _ => x = r) :=
  CI_of (cc := cX11_in) (maxL := 3) (ret := (some .boolean)) (by decide) rfl (Nat.le_of_ble_eq_true rfl) (br_in _ _ _ hB)
set_option maxHeartbeats 4000000 in
set_option maxRecDepth 100000 in
theorem br_within {l : Launch} {dC : Nat → ClassId} {dI : Nat → Nat → Nat} {cB cI cJ cZ cS : ClassId} {as : List Value} {r : Int32} (x0 : Int32) (x1 : Int32) (x2 : Int32) (hB : r_within x0 x1 x2 = some r) : BlkI l yX11_within wsX11_within ({ frames := 0, cells := 0, slots := 0, locals := 0 }) cX11_within 3 (some .int) (dC, dI) (tysA cB cI cJ cZ cS) as 0 [] [(0, .int x0), (1, .int x1), (2, .int x2)] [] (fun x _ => x = r) := by
  intro p e s0 m below meth c A E H locs ls hP hD hS hl
  obtain ⟨C, hr, hlocks, hA, hK, hN⟩ := id E
  obtain ⟨hx, hb, hml, hown, hts⟩ := id C
  unfold r_within at hB
  refine lv_iload_n hx hb dX11_within_0 rfl (lv_at hl 0 rfl) ?_
  refine lv_iload_n hx hb dX11_within_1 rfl (lv_at hl 1 rfl) ?_
  refine lv_icmp_ge (tgt := 9) hx hb dX11_within_2 (by decide) (fun c1 => ?_) (fun c1 => ?_)
  · have hB := if_p hB c1
    refine lv_iload_n hx hb dX11_within_9 rfl (lv_at hl 0 rfl) ?_
    refine lv_iload_n hx hb dX11_within_10 rfl (lv_at hl 2 rfl) ?_
    refine lv_icmp_le (tgt := 18) hx hb dX11_within_11 (by decide) (fun c2 => ?_) (fun c2 => ?_)
    · have hB := if_p hB c2
      refine lv_iload_n hx hb dX11_within_18 rfl (lv_at hl 0 rfl) ?_
      exact q_iret C hr hlocks hK hP hD hS (Nat.le_of_ble_eq_true rfl) (Nat.le_of_ble_eq_true rfl) dX11_within_19 (by cases hB; rfl)
    · have hB := if_n hB c2
      refine lv_iload_n hx hb dX11_within_14 rfl (lv_at hl 2 rfl) ?_
      refine lv_goto (tgt := 19) hx hb dX11_within_15 (by decide) ?_
      exact q_iret C hr hlocks hK hP hD hS (Nat.le_of_ble_eq_true rfl) (Nat.le_of_ble_eq_true rfl) dX11_within_19 (by cases hB; rfl)
  · have hB := if_n hB c1
    refine lv_iload_n hx hb dX11_within_5 rfl (lv_at hl 1 rfl) ?_
    refine lv_goto (tgt := 19) hx hb dX11_within_6 (by decide) ?_
    exact q_iret C hr hlocks hK hP hD hS (Nat.le_of_ble_eq_true rfl) (Nat.le_of_ble_eq_true rfl) dX11_within_19 (by cases hB; rfl)
theorem cr_within {l : Launch} {dC : Nat → ClassId} {dI : Nat → Nat → Nat} {cB cI cJ cZ cS : ClassId} {r : Int32} {x0 : Int32} {x1 : Int32} {x2 : Int32} (hB : r_within x0 x1 x2 = some r) : CI l yX11_within wsX11_within ({ frames := 0, cells := 0, slots := 0, locals := 0 }) (dC, dI) (tysA cB cI cJ cZ cS) [] [.int x0, .int x1, .int x2] (fun x _ => x = r) :=
  CI_of (cc := cX11_within) (maxL := 3) (ret := (some .int)) (by decide) rfl (Nat.le_of_ble_eq_true rfl) (br_within _ _ _ hB)
set_option maxHeartbeats 4000000 in
set_option maxRecDepth 100000 in
theorem br_bits_4 {l : Launch} {dC : Nat → ClassId} {dI : Nat → Nat → Nat} {cB cI cJ cZ cS : ClassId} {as : List Value} {r : Int32} {k4 : Int32 → Int32 → Int32 → Option Int32} (hk4 : ∀ (x0 : Int32) (x1 : Int32) (x2 : Int32), k4 x0 x1 x2 = some r → BlkI l yX11_bits wsX11_bits ({ frames := 0, cells := 0, slots := 0, locals := 0 }) cX11_bits 3 (some .int) (dC, dI) (tysA cB cI cJ cZ cS) as 4 [] [(0, .int x0), (1, .int x1), (2, .int x2)] [] (fun x _ => x = r)) (x0 : Int32) (x1 : Int32) (x2 : Int32) (hB : r_bits_4 k4 x0 x1 x2 = some r) : BlkI l yX11_bits wsX11_bits ({ frames := 0, cells := 0, slots := 0, locals := 0 }) cX11_bits 3 (some .int) (dC, dI) (tysA cB cI cJ cZ cS) as 4 [] [(0, .int x0), (1, .int x1), (2, .int x2)] [] (fun x _ => x = r) := by
  intro p e s0 m below meth c A E H locs ls hP hD hS hl
  obtain ⟨C, hr, hlocks, hA, hK, hN⟩ := id E
  obtain ⟨hx, hb, hml, hown, hts⟩ := id C
  unfold r_bits_4 at hB
  refine lv_iload_n hx hb dX11_bits_4 rfl (lv_at hl 2 rfl) ?_
  refine lv_bipush (v := 6) hx hb dX11_bits_5 (by decide) ?_
  refine lv_icmp_ge (tgt := 24) hx hb dX11_bits_7 (by decide) (fun c1 => ?_) (fun c1 => ?_)
  · have hB := if_p hB c1
    refine lv_iload_n hx hb dX11_bits_24 rfl (lv_at hl 1 rfl) ?_
    exact q_iret C hr hlocks hK hP hD hS (Nat.le_of_ble_eq_true rfl) (Nat.le_of_ble_eq_true rfl) dX11_bits_25 (by cases hB; rfl)
  · have hB := if_n hB c1
    refine lv_iload_n hx hb dX11_bits_10 rfl (lv_at hl 1 rfl) ?_
    refine lv_iload_n hx hb dX11_bits_11 rfl (lv_at hl 0 rfl) ?_
    refine lv_iload_n hx hb dX11_bits_12 rfl (lv_at hl 2 rfl) ?_
    refine lv_ishr hx hb dX11_bits_13 ?_
    refine lv_iconst (v := 1) hx hb dX11_bits_14 (by decide) ?_
    refine lv_iand hx hb dX11_bits_15 ?_
    refine lv_iadd hx hb dX11_bits_16 ?_
    refine lv_istore_n (lv' := [(1, .int (x1 + ((x0 >>> (x2 &&& 31)) &&& 1))), (0, .int x0), (2, .int x2)]) hx hb dX11_bits_17 rfl hl (by decide) rfl (fun ls hl => ?_)
    refine lv_iinc (v := (x2 + 1)) (lv' := [(2, .int (x2 + 1)), (1, .int (x1 + ((x0 >>> (x2 &&& 31)) &&& 1))), (0, .int x0)]) hx hb dX11_bits_18 hl (k := 2) rfl (rfl) (by decide) rfl (fun ls hl => ?_)
    refine lv_goto (tgt := 4) hx hb dX11_bits_21 (by decide) ?_
    exact hk4 _ _ _ hB p e s0 m below meth c A E H locs ls hP hD hS (lv_sub hl [2, 1, 0] rfl)
theorem br_bits_4L {l : Launch} {dC : Nat → ClassId} {dI : Nat → Nat → Nat} {cB cI cJ cZ cS : ClassId} {as : List Value} {r : Int32} : ∀ (n : Nat) (x0 : Int32) (x1 : Int32) (x2 : Int32), r_bits_4L n x0 x1 x2 = some r → BlkI l yX11_bits wsX11_bits ({ frames := 0, cells := 0, slots := 0, locals := 0 }) cX11_bits 3 (some .int) (dC, dI) (tysA cB cI cJ cZ cS) as 4 [] [(0, .int x0), (1, .int x1), (2, .int x2)] [] (fun x _ => x = r) := by
  intro n
  induction n with
  | zero => intro x0 x1 x2 hB; exact none_ne hB
  | succ n ih => intro x0 x1 x2 hB; exact br_bits_4 ih _ _ _ hB
set_option maxHeartbeats 4000000 in
set_option maxRecDepth 100000 in
theorem br_bits {l : Launch} {dC : Nat → ClassId} {dI : Nat → Nat → Nat} {cB cI cJ cZ cS : ClassId} {as : List Value} {r : Int32} (x0 : Int32) (hB : r_bits x0 = some r) : BlkI l yX11_bits wsX11_bits ({ frames := 0, cells := 0, slots := 0, locals := 0 }) cX11_bits 3 (some .int) (dC, dI) (tysA cB cI cJ cZ cS) as 0 [] [(0, .int x0)] [] (fun x _ => x = r) := by
  intro p e s0 m below meth c A E H locs ls hP hD hS hl
  obtain ⟨C, hr, hlocks, hA, hK, hN⟩ := id E
  obtain ⟨hx, hb, hml, hown, hts⟩ := id C
  unfold r_bits at hB
  refine lv_iconst (v := 0) hx hb dX11_bits_0 (by decide) ?_
  refine lv_istore_n (lv' := [(1, .int 0), (0, .int x0)]) hx hb dX11_bits_1 rfl hl (by decide) rfl (fun ls hl => ?_)
  refine lv_iconst (v := 0) hx hb dX11_bits_2 (by decide) ?_
  refine lv_istore_n (lv' := [(2, .int 0), (1, .int 0), (0, .int x0)]) hx hb dX11_bits_3 rfl hl (by decide) rfl (fun ls hl => ?_)
  exact br_bits_4L fu _ _ _ hB p e s0 m below meth c A E H locs ls hP hD hS (lv_sub hl [2, 1, 0] rfl)
theorem cr_bits {l : Launch} {dC : Nat → ClassId} {dI : Nat → Nat → Nat} {cB cI cJ cZ cS : ClassId} {r : Int32} {x0 : Int32} (hB : r_bits x0 = some r) : CI l yX11_bits wsX11_bits ({ frames := 0, cells := 0, slots := 0, locals := 0 }) (dC, dI) (tysA cB cI cJ cZ cS) [] [.int x0] (fun x _ => x = r) :=
  CI_of (cc := cX11_bits) (maxL := 3) (ret := (some .int)) (by decide) rfl (Nat.le_of_ble_eq_true rfl) (br_bits _ hB)
end
section
theorem ggX11_isWave_X11_in : GoodIn wsX11_isWave wsX11_in := gi_sub (fun w h => List.mem_cons_of_mem _ (List.mem_append_left _ (List.mem_append_right _ h))) gd_wsX11_in
set_option maxRecDepth 20000 in
theorem gX11_isWave_X11_in : GoodIn wsX11_isWave (va_wsS RX11 281 yX11_in wsX11_in) := goodIn_app (goodIn_of _ (by decide +kernel)) ggX11_isWave_X11_in
theorem dX11_isWave_0 : decode cX11_isWave 0 = .ok (.iload_n 1, 1) := dc1_27 (by decide +kernel)
theorem dX11_isWave_1 : decode cX11_isWave 1 = .ok (.iconst 0, 1) := dc1_3 (by decide +kernel)
theorem dX11_isWave_2 : decode cX11_isWave 2 = .ok (.aload_n 0, 1) := dc1_42 (by decide +kernel)
theorem dX11_isWave_3 : decode cX11_isWave 3 = .ok (.getfield 40, 3) := dcw_180 (by decide +kernel)
theorem dX11_isWave_6 : decode cX11_isWave 6 = .ok (.aload_n 0, 1) := dc1_42 (by decide +kernel)
theorem dX11_isWave_7 : decode cX11_isWave 7 = .ok (.getfield 215, 3) := dcw_180 (by decide +kernel)
theorem dX11_isWave_10 : decode cX11_isWave 10 = .ok (.iaload, 1) := dc1_46 (by decide +kernel)
theorem dX11_isWave_11 : decode cX11_isWave 11 = .ok (.iconst 1, 1) := dc1_4 (by decide +kernel)
theorem dX11_isWave_12 : decode cX11_isWave 12 = .ok (.isub, 1) := dc1_100 (by decide +kernel)
theorem dX11_isWave_13 : decode cX11_isWave 13 = .ok (.invokestatic 281, 3) := dcw_184 (by decide +kernel)
theorem dX11_isWave_16 : decode cX11_isWave 16 = .ok (.ireturn, 1) := dc1_172 (by decide +kernel)
theorem ggX11_isParty_X11_in : GoodIn wsX11_isParty wsX11_in := gi_sub (fun w h => List.mem_cons_of_mem _ (List.mem_append_left _ (List.mem_append_right _ h))) gd_wsX11_in
set_option maxRecDepth 20000 in
theorem gX11_isParty_X11_in : GoodIn wsX11_isParty (va_wsS RX11 281 yX11_in wsX11_in) := goodIn_app (goodIn_of _ (by decide +kernel)) ggX11_isParty_X11_in
theorem dX11_isParty_0 : decode cX11_isParty 0 = .ok (.iload_n 1, 1) := dc1_27 (by decide +kernel)
theorem dX11_isParty_1 : decode cX11_isParty 1 = .ok (.iconst 0, 1) := dc1_3 (by decide +kernel)
theorem dX11_isParty_2 : decode cX11_isParty 2 = .ok (.aload_n 0, 1) := dc1_42 (by decide +kernel)
theorem dX11_isParty_3 : decode cX11_isParty 3 = .ok (.getfield 49, 3) := dcw_180 (by decide +kernel)
theorem dX11_isParty_6 : decode cX11_isParty 6 = .ok (.aload_n 0, 1) := dc1_42 (by decide +kernel)
theorem dX11_isParty_7 : decode cX11_isParty 7 = .ok (.getfield 215, 3) := dcw_180 (by decide +kernel)
theorem dX11_isParty_10 : decode cX11_isParty 10 = .ok (.iaload, 1) := dc1_46 (by decide +kernel)
theorem dX11_isParty_11 : decode cX11_isParty 11 = .ok (.iconst 1, 1) := dc1_4 (by decide +kernel)
theorem dX11_isParty_12 : decode cX11_isParty 12 = .ok (.isub, 1) := dc1_100 (by decide +kernel)
theorem dX11_isParty_13 : decode cX11_isParty 13 = .ok (.invokestatic 281, 3) := dcw_184 (by decide +kernel)
theorem dX11_isParty_16 : decode cX11_isParty 16 = .ok (.ireturn, 1) := dc1_172 (by decide +kernel)
theorem dX11_guesses_0 : decode cX11_guesses 0 = .ok (.aload_n 0, 1) := dc1_42 (by decide +kernel)
theorem dX11_guesses_1 : decode cX11_guesses 1 = .ok (.getfield 104, 3) := dcw_180 (by decide +kernel)
theorem dX11_guesses_4 : decode cX11_guesses 4 = .ok (.aload_n 0, 1) := dc1_42 (by decide +kernel)
theorem dX11_guesses_5 : decode cX11_guesses 5 = .ok (.getfield 40, 3) := dcw_180 (by decide +kernel)
theorem dX11_guesses_8 : decode cX11_guesses 8 = .ok (.aload_n 0, 1) := dc1_42 (by decide +kernel)
theorem dX11_guesses_9 : decode cX11_guesses 9 = .ok (.getfield 215, 3) := dcw_180 (by decide +kernel)
theorem dX11_guesses_12 : decode cX11_guesses 12 = .ok (.iaload, 1) := dc1_46 (by decide +kernel)
theorem dX11_guesses_13 : decode cX11_guesses 13 = .ok (.iaload, 1) := dc1_46 (by decide +kernel)
theorem dX11_guesses_14 : decode cX11_guesses 14 = .ok (.ireturn, 1) := dc1_172 (by decide +kernel)
theorem ggX11_isGuess_X11_guesses : GoodIn wsX11_isGuess wsX11_guesses := gi_sub (fun w h => List.mem_cons_of_mem _ (List.mem_append_left _ (List.mem_append_right _ (List.mem_append_left _ h)))) gd_wsX11_guesses
set_option maxRecDepth 20000 in
theorem gX11_isGuess_X11_guesses : GoodIn wsX11_isGuess (wsV RX11 285 RX11 yX11_guesses wsX11_guesses) := goodIn_app (goodIn_r _ [1, 2, 3, 4] (by decide +kernel) (by decide +kernel)) ggX11_isGuess_X11_guesses
theorem ggX11_isGuess_X11_in : GoodIn wsX11_isGuess wsX11_in := gi_sub (fun w h => List.mem_cons_of_mem _ (List.mem_append_left _ (List.mem_append_right _ (List.mem_append_right _ h)))) gd_wsX11_in
set_option maxRecDepth 20000 in
theorem gX11_isGuess_X11_in : GoodIn wsX11_isGuess (va_wsS RX11 281 yX11_in wsX11_in) := goodIn_app (goodIn_of _ (by decide +kernel)) ggX11_isGuess_X11_in
theorem dX11_isGuess_0 : decode cX11_isGuess 0 = .ok (.iload_n 1, 1) := dc1_27 (by decide +kernel)
theorem dX11_isGuess_1 : decode cX11_isGuess 1 = .ok (.iconst 0, 1) := dc1_3 (by decide +kernel)
theorem dX11_isGuess_2 : decode cX11_isGuess 2 = .ok (.aload_n 0, 1) := dc1_42 (by decide +kernel)
theorem dX11_isGuess_3 : decode cX11_isGuess 3 = .ok (.invokevirtual 285, 3) := dcw_182 (by decide +kernel)
theorem dX11_isGuess_6 : decode cX11_isGuess 6 = .ok (.iconst 1, 1) := dc1_4 (by decide +kernel)
theorem dX11_isGuess_7 : decode cX11_isGuess 7 = .ok (.isub, 1) := dc1_100 (by decide +kernel)
theorem dX11_isGuess_8 : decode cX11_isGuess 8 = .ok (.invokestatic 281, 3) := dcw_184 (by decide +kernel)
theorem dX11_isGuess_11 : decode cX11_isGuess 11 = .ok (.ireturn, 1) := dc1_172 (by decide +kernel)
theorem ggX11_isThing_X11_in : GoodIn wsX11_isThing wsX11_in := gi_sub (fun w h => List.mem_cons_of_mem _ (List.mem_append_right _ h)) gd_wsX11_in
set_option maxRecDepth 20000 in
theorem gX11_isThing_X11_in : GoodIn wsX11_isThing (va_wsS RX11 281 yX11_in wsX11_in) := goodIn_app (goodIn_of _ (by decide +kernel)) ggX11_isThing_X11_in
theorem dX11_isThing_0 : decode cX11_isThing 0 = .ok (.iload_n 0, 1) := dc1_26 (by decide +kernel)
theorem dX11_isThing_1 : decode cX11_isThing 1 = .ok (.iconst 0, 1) := dc1_3 (by decide +kernel)
theorem dX11_isThing_2 : decode cX11_isThing 2 = .ok (.iconst 5, 1) := dc1_8 (by decide +kernel)
theorem dX11_isThing_3 : decode cX11_isThing 3 = .ok (.invokestatic 281, 3) := dcw_184 (by decide +kernel)
theorem dX11_isThing_6 : decode cX11_isThing 6 = .ok (.ireturn, 1) := dc1_172 (by decide +kernel)
theorem dX11_thingAt_0 : decode cX11_thingAt 0 = .ok (.iload_n 1, 1) := dc1_27 (by decide +kernel)
theorem dX11_thingAt_1 : decode cX11_thingAt 1 = .ok (.aload_n 0, 1) := dc1_42 (by decide +kernel)
theorem dX11_thingAt_2 : decode cX11_thingAt 2 = .ok (.getfield 104, 3) := dcw_180 (by decide +kernel)
theorem dX11_thingAt_5 : decode cX11_thingAt 5 = .ok (.iload_n 2, 1) := dc1_28 (by decide +kernel)
theorem dX11_thingAt_6 : decode cX11_thingAt 6 = .ok (.iaload, 1) := dc1_46 (by decide +kernel)
theorem dX11_thingAt_7 : decode cX11_thingAt 7 = .ok (.idiv, 1) := dc1_108 (by decide +kernel)
theorem dX11_thingAt_8 : decode cX11_thingAt 8 = .ok (.bipush 6, 2) := dcb_16 (n := 6) (by decide +kernel)
theorem dX11_thingAt_10 : decode cX11_thingAt 10 = .ok (.irem, 1) := dc1_112 (by decide +kernel)
theorem dX11_thingAt_11 : decode cX11_thingAt 11 = .ok (.ireturn, 1) := dc1_172 (by decide +kernel)
theorem dX11_copies_0 : decode cX11_copies 0 = .ok (.iconst 0, 1) := dc1_3 (by decide +kernel)
theorem dX11_copies_1 : decode cX11_copies 1 = .ok (.istore_n 1, 1) := dc1_60 (by decide +kernel)
theorem dX11_copies_2 : decode cX11_copies 2 = .ok (.iload_n 1, 1) := dc1_27 (by decide +kernel)
theorem dX11_copies_3 : decode cX11_copies 3 = .ok (.bipush 29, 2) := dcb_16 (n := 29) (by decide +kernel)
theorem dX11_copies_5 : decode cX11_copies 5 = .ok (.if_icmp .ge 21, 3) := dcs_162 (n := 21) (by decide +kernel)
theorem dX11_copies_8 : decode cX11_copies 8 = .ok (.aload_n 0, 1) := dc1_42 (by decide +kernel)
theorem dX11_copies_9 : decode cX11_copies 9 = .ok (.getfield 101, 3) := dcw_180 (by decide +kernel)
theorem dX11_copies_12 : decode cX11_copies 12 = .ok (.iload_n 1, 1) := dc1_27 (by decide +kernel)
theorem dX11_copies_13 : decode cX11_copies 13 = .ok (.aload_n 0, 1) := dc1_42 (by decide +kernel)
theorem dX11_copies_14 : decode cX11_copies 14 = .ok (.getfield 98, 3) := dcw_180 (by decide +kernel)
theorem dX11_copies_17 : decode cX11_copies 17 = .ok (.iload_n 1, 1) := dc1_27 (by decide +kernel)
theorem dX11_copies_18 : decode cX11_copies 18 = .ok (.iaload, 1) := dc1_46 (by decide +kernel)
theorem dX11_copies_19 : decode cX11_copies 19 = .ok (.iastore, 1) := dc1_79 (by decide +kernel)
theorem dX11_copies_20 : decode cX11_copies 20 = .ok (.iinc 1 1, 3) := dc_iinc (m := 1) (by decide +kernel)
theorem dX11_copies_23 : decode cX11_copies 23 = .ok (.goto (-21), 3) := dcs_167 (n := 65515) (by decide +kernel)
theorem dX11_copies_26 : decode cX11_copies 26 = .ok (.aload_n 0, 1) := dc1_42 (by decide +kernel)
theorem dX11_copies_27 : decode cX11_copies 27 = .ok (.aload_n 0, 1) := dc1_42 (by decide +kernel)
theorem dX11_copies_28 : decode cX11_copies 28 = .ok (.getfield 58, 3) := dcw_180 (by decide +kernel)
theorem dX11_copies_31 : decode cX11_copies 31 = .ok (.aload_n 0, 1) := dc1_42 (by decide +kernel)
theorem dX11_copies_32 : decode cX11_copies 32 = .ok (.getfield 215, 3) := dcw_180 (by decide +kernel)
theorem dX11_copies_35 : decode cX11_copies 35 = .ok (.iaload, 1) := dc1_46 (by decide +kernel)
theorem dX11_copies_36 : decode cX11_copies 36 = .ok (.putfield 289, 3) := dcw_181 (by decide +kernel)
theorem dX11_copies_39 : decode cX11_copies 39 = .ok (.return_, 1) := dc1_177 (by decide +kernel)
theorem dX11_mixed_0 : decode cX11_mixed 0 = .ok (.iload_n 0, 1) := dc1_26 (by decide +kernel)
theorem dX11_mixed_1 : decode cX11_mixed 1 = .ok (.iload_n 1, 1) := dc1_27 (by decide +kernel)
theorem dX11_mixed_2 : decode cX11_mixed 2 = .ok (.ixor, 1) := dc1_130 (by decide +kernel)
theorem dX11_mixed_3 : decode cX11_mixed 3 = .ok (.ldc_w 292, 3) := dcw_19 (by decide +kernel)
theorem dX11_mixed_6 : decode cX11_mixed 6 = .ok (.imul, 1) := dc1_104 (by decide +kernel)
theorem dX11_mixed_7 : decode cX11_mixed 7 = .ok (.sipush 12345, 3) := dcs_17 (n := 12345) (by decide +kernel)
theorem dX11_mixed_10 : decode cX11_mixed 10 = .ok (.iadd, 1) := dc1_96 (by decide +kernel)
theorem dX11_mixed_11 : decode cX11_mixed 11 = .ok (.istore_n 2, 1) := dc1_61 (by decide +kernel)
theorem dX11_mixed_12 : decode cX11_mixed 12 = .ok (.iload_n 2, 1) := dc1_28 (by decide +kernel)
theorem dX11_mixed_13 : decode cX11_mixed 13 = .ok (.iload_n 2, 1) := dc1_28 (by decide +kernel)
theorem dX11_mixed_14 : decode cX11_mixed 14 = .ok (.bipush 15, 2) := dcb_16 (n := 15) (by decide +kernel)
theorem dX11_mixed_16 : decode cX11_mixed 16 = .ok (.iushr, 1) := dc1_124 (by decide +kernel)
theorem dX11_mixed_17 : decode cX11_mixed 17 = .ok (.ixor, 1) := dc1_130 (by decide +kernel)
theorem dX11_mixed_18 : decode cX11_mixed 18 = .ok (.ireturn, 1) := dc1_172 (by decide +kernel)
theorem ggX11_lotOf_X11_mixed : GoodIn wsX11_lotOf wsX11_mixed := gi_sub (fun w h => List.mem_cons_of_mem _ (List.mem_append_left _ (List.mem_append_right _ h))) gd_wsX11_mixed
set_option maxRecDepth 20000 in
theorem gX11_lotOf_X11_mixed : GoodIn wsX11_lotOf (va_wsS RX11 293 yX11_mixed wsX11_mixed) := goodIn_app (goodIn_of _ (by decide +kernel)) ggX11_lotOf_X11_mixed
theorem dX11_lotOf_0 : decode cX11_lotOf 0 = .ok (.aload_n 0, 1) := dc1_42 (by decide +kernel)
theorem dX11_lotOf_1 : decode cX11_lotOf 1 = .ok (.getfield 289, 3) := dcw_180 (by decide +kernel)
theorem dX11_lotOf_4 : decode cX11_lotOf 4 = .ok (.sipush 173, 3) := dcs_17 (n := 173) (by decide +kernel)
theorem dX11_lotOf_7 : decode cX11_lotOf 7 = .ok (.invokestatic 293, 3) := dcw_184 (by decide +kernel)
theorem dX11_lotOf_10 : decode cX11_lotOf 10 = .ok (.iload_n 1, 1) := dc1_27 (by decide +kernel)
theorem dX11_lotOf_11 : decode cX11_lotOf 11 = .ok (.invokestatic 293, 3) := dcw_184 (by decide +kernel)
theorem dX11_lotOf_14 : decode cX11_lotOf 14 = .ok (.iconst 1, 1) := dc1_4 (by decide +kernel)
theorem dX11_lotOf_15 : decode cX11_lotOf 15 = .ok (.iushr, 1) := dc1_124 (by decide +kernel)
theorem dX11_lotOf_16 : decode cX11_lotOf 16 = .ok (.iload_n 2, 1) := dc1_28 (by decide +kernel)
theorem dX11_lotOf_17 : decode cX11_lotOf 17 = .ok (.irem, 1) := dc1_112 (by decide +kernel)
theorem dX11_lotOf_18 : decode cX11_lotOf 18 = .ok (.ireturn, 1) := dc1_172 (by decide +kernel)
theorem dX11_oddsAt_0 : decode cX11_oddsAt 0 = .ok (.aload_n 0, 1) := dc1_42 (by decide +kernel)
theorem dX11_oddsAt_1 : decode cX11_oddsAt 1 = .ok (.getfield 43, 3) := dcw_180 (by decide +kernel)
theorem dX11_oddsAt_4 : decode cX11_oddsAt 4 = .ok (.bipush 30, 2) := dcb_16 (n := 30) (by decide +kernel)
theorem dX11_oddsAt_6 : decode cX11_oddsAt 6 = .ok (.aload_n 0, 1) := dc1_42 (by decide +kernel)
theorem dX11_oddsAt_7 : decode cX11_oddsAt 7 = .ok (.getfield 215, 3) := dcw_180 (by decide +kernel)
theorem dX11_oddsAt_10 : decode cX11_oddsAt 10 = .ok (.imul, 1) := dc1_104 (by decide +kernel)
theorem dX11_oddsAt_11 : decode cX11_oddsAt 11 = .ok (.bipush 6, 2) := dcb_16 (n := 6) (by decide +kernel)
theorem dX11_oddsAt_13 : decode cX11_oddsAt 13 = .ok (.iload_n 1, 1) := dc1_27 (by decide +kernel)
theorem dX11_oddsAt_14 : decode cX11_oddsAt 14 = .ok (.imul, 1) := dc1_104 (by decide +kernel)
theorem dX11_oddsAt_15 : decode cX11_oddsAt 15 = .ok (.iadd, 1) := dc1_96 (by decide +kernel)
theorem dX11_oddsAt_16 : decode cX11_oddsAt 16 = .ok (.iload_n 2, 1) := dc1_28 (by decide +kernel)
theorem dX11_oddsAt_17 : decode cX11_oddsAt 17 = .ok (.iadd, 1) := dc1_96 (by decide +kernel)
theorem dX11_oddsAt_18 : decode cX11_oddsAt 18 = .ok (.iaload, 1) := dc1_46 (by decide +kernel)
theorem dX11_oddsAt_19 : decode cX11_oddsAt 19 = .ok (.ireturn, 1) := dc1_172 (by decide +kernel)
theorem ggX11_thereAt_X11_oddsAt : GoodIn wsX11_thereAt wsX11_oddsAt := gi_sub (fun w h => List.mem_cons_of_mem _ (List.mem_append_left _ (List.mem_append_right _ (List.mem_append_left _ h)))) gd_wsX11_oddsAt
set_option maxRecDepth 20000 in
theorem gX11_thereAt_X11_oddsAt : GoodIn wsX11_thereAt (wsV RX11 297 RX11 yX11_oddsAt wsX11_oddsAt) := goodIn_app (goodIn_r _ [2, 3, 4, 5] (by decide +kernel) (by decide +kernel)) ggX11_thereAt_X11_oddsAt
theorem ggX11_thereAt_X11_lotOf : GoodIn wsX11_thereAt wsX11_lotOf := gi_sub (fun w h => List.mem_cons_of_mem _ (List.mem_append_left _ (List.mem_append_right _ (List.mem_append_right _ h)))) gd_wsX11_lotOf
set_option maxRecDepth 20000 in
theorem gX11_thereAt_X11_lotOf : GoodIn wsX11_thereAt (wsV RX11 300 RX11 yX11_lotOf wsX11_lotOf) := goodIn_app (goodIn_r _ [6, 7, 8, 5] (by decide +kernel) (by decide +kernel)) ggX11_thereAt_X11_lotOf
theorem dX11_thereAt_0 : decode cX11_thereAt 0 = .ok (.iconst 0, 1) := dc1_3 (by decide +kernel)
theorem dX11_thereAt_1 : decode cX11_thereAt 1 = .ok (.istore_n 2, 1) := dc1_61 (by decide +kernel)
theorem dX11_thereAt_2 : decode cX11_thereAt 2 = .ok (.iconst 0, 1) := dc1_3 (by decide +kernel)
theorem dX11_thereAt_3 : decode cX11_thereAt 3 = .ok (.istore_n 3, 1) := dc1_62 (by decide +kernel)
theorem dX11_thereAt_4 : decode cX11_thereAt 4 = .ok (.iload_n 3, 1) := dc1_29 (by decide +kernel)
theorem dX11_thereAt_5 : decode cX11_thereAt 5 = .ok (.bipush 6, 2) := dcb_16 (n := 6) (by decide +kernel)
theorem dX11_thereAt_7 : decode cX11_thereAt 7 = .ok (.if_icmp .ge 18, 3) := dcs_162 (n := 18) (by decide +kernel)
theorem dX11_thereAt_10 : decode cX11_thereAt 10 = .ok (.iload_n 2, 1) := dc1_28 (by decide +kernel)
theorem dX11_thereAt_11 : decode cX11_thereAt 11 = .ok (.aload_n 0, 1) := dc1_42 (by decide +kernel)
theorem dX11_thereAt_12 : decode cX11_thereAt 12 = .ok (.iload_n 1, 1) := dc1_27 (by decide +kernel)
theorem dX11_thereAt_13 : decode cX11_thereAt 13 = .ok (.iload_n 3, 1) := dc1_29 (by decide +kernel)
theorem dX11_thereAt_14 : decode cX11_thereAt 14 = .ok (.invokevirtual 297, 3) := dcw_182 (by decide +kernel)
theorem dX11_thereAt_17 : decode cX11_thereAt 17 = .ok (.iadd, 1) := dc1_96 (by decide +kernel)
theorem dX11_thereAt_18 : decode cX11_thereAt 18 = .ok (.istore_n 2, 1) := dc1_61 (by decide +kernel)
theorem dX11_thereAt_19 : decode cX11_thereAt 19 = .ok (.iinc 3 1, 3) := dc_iinc (m := 1) (by decide +kernel)
theorem dX11_thereAt_22 : decode cX11_thereAt 22 = .ok (.goto (-18), 3) := dcs_167 (n := 65518) (by decide +kernel)
theorem dX11_thereAt_25 : decode cX11_thereAt 25 = .ok (.aload_n 0, 1) := dc1_42 (by decide +kernel)
theorem dX11_thereAt_26 : decode cX11_thereAt 26 = .ok (.bipush 8, 2) := dcb_16 (n := 8) (by decide +kernel)
theorem dX11_thereAt_28 : decode cX11_thereAt 28 = .ok (.aload_n 0, 1) := dc1_42 (by decide +kernel)
theorem dX11_thereAt_29 : decode cX11_thereAt 29 = .ok (.getfield 101, 3) := dcw_180 (by decide +kernel)
theorem dX11_thereAt_32 : decode cX11_thereAt 32 = .ok (.bipush 10, 2) := dcb_16 (n := 10) (by decide +kernel)
theorem dX11_thereAt_34 : decode cX11_thereAt 34 = .ok (.iload_n 1, 1) := dc1_27 (by decide +kernel)
theorem dX11_thereAt_35 : decode cX11_thereAt 35 = .ok (.iadd, 1) := dc1_96 (by decide +kernel)
theorem dX11_thereAt_36 : decode cX11_thereAt 36 = .ok (.iaload, 1) := dc1_46 (by decide +kernel)
theorem dX11_thereAt_37 : decode cX11_thereAt 37 = .ok (.imul, 1) := dc1_104 (by decide +kernel)
theorem dX11_thereAt_38 : decode cX11_thereAt 38 = .ok (.iload_n 1, 1) := dc1_27 (by decide +kernel)
theorem dX11_thereAt_39 : decode cX11_thereAt 39 = .ok (.iadd, 1) := dc1_96 (by decide +kernel)
theorem dX11_thereAt_40 : decode cX11_thereAt 40 = .ok (.iload_n 2, 1) := dc1_28 (by decide +kernel)
theorem dX11_thereAt_41 : decode cX11_thereAt 41 = .ok (.invokevirtual 300, 3) := dcw_182 (by decide +kernel)
theorem dX11_thereAt_44 : decode cX11_thereAt 44 = .ok (.istore_n 3, 1) := dc1_62 (by decide +kernel)
theorem dX11_thereAt_45 : decode cX11_thereAt 45 = .ok (.iconst 0, 1) := dc1_3 (by decide +kernel)
theorem dX11_thereAt_46 : decode cX11_thereAt 46 = .ok (.istore 4, 2) := dcu_54 (by decide +kernel)
theorem dX11_thereAt_48 : decode cX11_thereAt 48 = .ok (.aload_n 0, 1) := dc1_42 (by decide +kernel)
theorem dX11_thereAt_49 : decode cX11_thereAt 49 = .ok (.iload_n 1, 1) := dc1_27 (by decide +kernel)
theorem dX11_thereAt_50 : decode cX11_thereAt 50 = .ok (.iconst 0, 1) := dc1_3 (by decide +kernel)
theorem dX11_thereAt_51 : decode cX11_thereAt 51 = .ok (.invokevirtual 297, 3) := dcw_182 (by decide +kernel)
theorem dX11_thereAt_54 : decode cX11_thereAt 54 = .ok (.istore_n 2, 1) := dc1_61 (by decide +kernel)
theorem dX11_thereAt_55 : decode cX11_thereAt 55 = .ok (.iload_n 2, 1) := dc1_28 (by decide +kernel)
theorem dX11_thereAt_56 : decode cX11_thereAt 56 = .ok (.iload_n 3, 1) := dc1_29 (by decide +kernel)
theorem dX11_thereAt_57 : decode cX11_thereAt 57 = .ok (.if_icmp .gt 19, 3) := dcs_163 (n := 19) (by decide +kernel)
theorem dX11_thereAt_60 : decode cX11_thereAt 60 = .ok (.iinc 4 1, 3) := dc_iinc (m := 1) (by decide +kernel)
theorem dX11_thereAt_63 : decode cX11_thereAt 63 = .ok (.iload_n 2, 1) := dc1_28 (by decide +kernel)
theorem dX11_thereAt_64 : decode cX11_thereAt 64 = .ok (.aload_n 0, 1) := dc1_42 (by decide +kernel)
theorem dX11_thereAt_65 : decode cX11_thereAt 65 = .ok (.iload_n 1, 1) := dc1_27 (by decide +kernel)
theorem dX11_thereAt_66 : decode cX11_thereAt 66 = .ok (.iload 4, 2) := dcu_21 (by decide +kernel)
theorem dX11_thereAt_68 : decode cX11_thereAt 68 = .ok (.invokevirtual 297, 3) := dcw_182 (by decide +kernel)
theorem dX11_thereAt_71 : decode cX11_thereAt 71 = .ok (.iadd, 1) := dc1_96 (by decide +kernel)
theorem dX11_thereAt_72 : decode cX11_thereAt 72 = .ok (.istore_n 2, 1) := dc1_61 (by decide +kernel)
theorem dX11_thereAt_73 : decode cX11_thereAt 73 = .ok (.goto (-18), 3) := dcs_167 (n := 65518) (by decide +kernel)
theorem dX11_thereAt_76 : decode cX11_thereAt 76 = .ok (.iload 4, 2) := dcu_21 (by decide +kernel)
theorem dX11_thereAt_78 : decode cX11_thereAt 78 = .ok (.ireturn, 1) := dc1_172 (by decide +kernel)
theorem ggX11_thereNumber_X11_thereAt : GoodIn wsX11_thereNumber wsX11_thereAt := gi_sub (fun w h => List.mem_cons_of_mem _ (List.mem_append_left _ (List.mem_append_right _ h))) gd_wsX11_thereAt
set_option maxRecDepth 20000 in
theorem gX11_thereNumber_X11_thereAt : GoodIn wsX11_thereNumber (wsV RX11 303 RX11 yX11_thereAt wsX11_thereAt) := goodIn_app (goodIn_r _ [4, 5, 6, 7] (by decide +kernel) (by decide +kernel)) ggX11_thereNumber_X11_thereAt
theorem dX11_thereNumber_0 : decode cX11_thereNumber 0 = .ok (.iconst 0, 1) := dc1_3 (by decide +kernel)
theorem dX11_thereNumber_1 : decode cX11_thereNumber 1 = .ok (.istore_n 1, 1) := dc1_60 (by decide +kernel)
theorem dX11_thereNumber_2 : decode cX11_thereNumber 2 = .ok (.iconst 0, 1) := dc1_3 (by decide +kernel)
theorem dX11_thereNumber_3 : decode cX11_thereNumber 3 = .ok (.istore_n 2, 1) := dc1_61 (by decide +kernel)
theorem dX11_thereNumber_4 : decode cX11_thereNumber 4 = .ok (.iload_n 2, 1) := dc1_28 (by decide +kernel)
theorem dX11_thereNumber_5 : decode cX11_thereNumber 5 = .ok (.aload_n 0, 1) := dc1_42 (by decide +kernel)
theorem dX11_thereNumber_6 : decode cX11_thereNumber 6 = .ok (.getfield 40, 3) := dcw_180 (by decide +kernel)
theorem dX11_thereNumber_9 : decode cX11_thereNumber 9 = .ok (.aload_n 0, 1) := dc1_42 (by decide +kernel)
theorem dX11_thereNumber_10 : decode cX11_thereNumber 10 = .ok (.getfield 215, 3) := dcw_180 (by decide +kernel)
theorem dX11_thereNumber_13 : decode cX11_thereNumber 13 = .ok (.iaload, 1) := dc1_46 (by decide +kernel)
theorem dX11_thereNumber_14 : decode cX11_thereNumber 14 = .ok (.if_icmp .ge 24, 3) := dcs_162 (n := 24) (by decide +kernel)
theorem dX11_thereNumber_17 : decode cX11_thereNumber 17 = .ok (.iload_n 1, 1) := dc1_27 (by decide +kernel)
theorem dX11_thereNumber_18 : decode cX11_thereNumber 18 = .ok (.aload_n 0, 1) := dc1_42 (by decide +kernel)
theorem dX11_thereNumber_19 : decode cX11_thereNumber 19 = .ok (.getfield 104, 3) := dcw_180 (by decide +kernel)
theorem dX11_thereNumber_22 : decode cX11_thereNumber 22 = .ok (.iload_n 2, 1) := dc1_28 (by decide +kernel)
theorem dX11_thereNumber_23 : decode cX11_thereNumber 23 = .ok (.iaload, 1) := dc1_46 (by decide +kernel)
theorem dX11_thereNumber_24 : decode cX11_thereNumber 24 = .ok (.aload_n 0, 1) := dc1_42 (by decide +kernel)
theorem dX11_thereNumber_25 : decode cX11_thereNumber 25 = .ok (.iload_n 2, 1) := dc1_28 (by decide +kernel)
theorem dX11_thereNumber_26 : decode cX11_thereNumber 26 = .ok (.invokevirtual 303, 3) := dcw_182 (by decide +kernel)
theorem dX11_thereNumber_29 : decode cX11_thereNumber 29 = .ok (.imul, 1) := dc1_104 (by decide +kernel)
theorem dX11_thereNumber_30 : decode cX11_thereNumber 30 = .ok (.iadd, 1) := dc1_96 (by decide +kernel)
theorem dX11_thereNumber_31 : decode cX11_thereNumber 31 = .ok (.istore_n 1, 1) := dc1_60 (by decide +kernel)
theorem dX11_thereNumber_32 : decode cX11_thereNumber 32 = .ok (.iinc 2 1, 3) := dc_iinc (m := 1) (by decide +kernel)
theorem dX11_thereNumber_35 : decode cX11_thereNumber 35 = .ok (.goto (-31), 3) := dcs_167 (n := 65505) (by decide +kernel)
theorem dX11_thereNumber_38 : decode cX11_thereNumber 38 = .ok (.iload_n 1, 1) := dc1_27 (by decide +kernel)
theorem dX11_thereNumber_39 : decode cX11_thereNumber 39 = .ok (.ireturn, 1) := dc1_172 (by decide +kernel)
theorem ggX11_mayAt_X11_oddsAt : GoodIn wsX11_mayAt wsX11_oddsAt := gi_sub (fun w h => List.mem_cons_of_mem _ (List.mem_append_left _ (List.mem_append_right _ h))) gd_wsX11_oddsAt
set_option maxRecDepth 20000 in
theorem gX11_mayAt_X11_oddsAt : GoodIn wsX11_mayAt (wsV RX11 297 RX11 yX11_oddsAt wsX11_oddsAt) := goodIn_app (goodIn_r _ [2, 3, 4, 5] (by decide +kernel) (by decide +kernel)) ggX11_mayAt_X11_oddsAt
theorem dX11_mayAt_0 : decode cX11_mayAt 0 = .ok (.aload_n 0, 1) := dc1_42 (by decide +kernel)
theorem dX11_mayAt_1 : decode cX11_mayAt 1 = .ok (.getfield 101, 3) := dcw_180 (by decide +kernel)
theorem dX11_mayAt_4 : decode cX11_mayAt 4 = .ok (.iconst 5, 1) := dc1_8 (by decide +kernel)
theorem dX11_mayAt_5 : decode cX11_mayAt 5 = .ok (.iload_n 1, 1) := dc1_27 (by decide +kernel)
theorem dX11_mayAt_6 : decode cX11_mayAt 6 = .ok (.iadd, 1) := dc1_96 (by decide +kernel)
theorem dX11_mayAt_7 : decode cX11_mayAt 7 = .ok (.iaload, 1) := dc1_46 (by decide +kernel)
theorem dX11_mayAt_8 : decode cX11_mayAt 8 = .ok (.ifCond .lt 14, 3) := dcs_155 (n := 14) (by decide +kernel)
theorem dX11_mayAt_11 : decode cX11_mayAt 11 = .ok (.iconst 1, 1) := dc1_4 (by decide +kernel)
theorem dX11_mayAt_12 : decode cX11_mayAt 12 = .ok (.aload_n 0, 1) := dc1_42 (by decide +kernel)
theorem dX11_mayAt_13 : decode cX11_mayAt 13 = .ok (.getfield 101, 3) := dcw_180 (by decide +kernel)
theorem dX11_mayAt_16 : decode cX11_mayAt 16 = .ok (.iconst 5, 1) := dc1_8 (by decide +kernel)
theorem dX11_mayAt_17 : decode cX11_mayAt 17 = .ok (.iload_n 1, 1) := dc1_27 (by decide +kernel)
theorem dX11_mayAt_18 : decode cX11_mayAt 18 = .ok (.iadd, 1) := dc1_96 (by decide +kernel)
theorem dX11_mayAt_19 : decode cX11_mayAt 19 = .ok (.iaload, 1) := dc1_46 (by decide +kernel)
theorem dX11_mayAt_20 : decode cX11_mayAt 20 = .ok (.ishl, 1) := dc1_120 (by decide +kernel)
theorem dX11_mayAt_21 : decode cX11_mayAt 21 = .ok (.ireturn, 1) := dc1_172 (by decide +kernel)
theorem dX11_mayAt_22 : decode cX11_mayAt 22 = .ok (.iconst 0, 1) := dc1_3 (by decide +kernel)
theorem dX11_mayAt_23 : decode cX11_mayAt 23 = .ok (.istore_n 2, 1) := dc1_61 (by decide +kernel)
theorem dX11_mayAt_24 : decode cX11_mayAt 24 = .ok (.iconst 0, 1) := dc1_3 (by decide +kernel)
theorem dX11_mayAt_25 : decode cX11_mayAt 25 = .ok (.istore_n 3, 1) := dc1_62 (by decide +kernel)
theorem dX11_mayAt_26 : decode cX11_mayAt 26 = .ok (.iload_n 3, 1) := dc1_29 (by decide +kernel)
theorem dX11_mayAt_27 : decode cX11_mayAt 27 = .ok (.bipush 6, 2) := dcb_16 (n := 6) (by decide +kernel)
theorem dX11_mayAt_29 : decode cX11_mayAt 29 = .ok (.if_icmp .ge 37, 3) := dcs_162 (n := 37) (by decide +kernel)
theorem dX11_mayAt_32 : decode cX11_mayAt 32 = .ok (.aload_n 0, 1) := dc1_42 (by decide +kernel)
theorem dX11_mayAt_33 : decode cX11_mayAt 33 = .ok (.iload_n 1, 1) := dc1_27 (by decide +kernel)
theorem dX11_mayAt_34 : decode cX11_mayAt 34 = .ok (.iload_n 3, 1) := dc1_29 (by decide +kernel)
theorem dX11_mayAt_35 : decode cX11_mayAt 35 = .ok (.invokevirtual 297, 3) := dcw_182 (by decide +kernel)
theorem dX11_mayAt_38 : decode cX11_mayAt 38 = .ok (.ifCond .le 22, 3) := dcs_158 (n := 22) (by decide +kernel)
theorem dX11_mayAt_41 : decode cX11_mayAt 41 = .ok (.aload_n 0, 1) := dc1_42 (by decide +kernel)
theorem dX11_mayAt_42 : decode cX11_mayAt 42 = .ok (.getfield 101, 3) := dcw_180 (by decide +kernel)
theorem dX11_mayAt_45 : decode cX11_mayAt 45 = .ok (.iload_n 1, 1) := dc1_27 (by decide +kernel)
theorem dX11_mayAt_46 : decode cX11_mayAt 46 = .ok (.iaload, 1) := dc1_46 (by decide +kernel)
theorem dX11_mayAt_47 : decode cX11_mayAt 47 = .ok (.iload_n 3, 1) := dc1_29 (by decide +kernel)
theorem dX11_mayAt_48 : decode cX11_mayAt 48 = .ok (.ishr, 1) := dc1_122 (by decide +kernel)
theorem dX11_mayAt_49 : decode cX11_mayAt 49 = .ok (.iconst 1, 1) := dc1_4 (by decide +kernel)
theorem dX11_mayAt_50 : decode cX11_mayAt 50 = .ok (.iand, 1) := dc1_126 (by decide +kernel)
theorem dX11_mayAt_51 : decode cX11_mayAt 51 = .ok (.ifCond .ne 9, 3) := dcs_154 (n := 9) (by decide +kernel)
theorem dX11_mayAt_54 : decode cX11_mayAt 54 = .ok (.iload_n 2, 1) := dc1_28 (by decide +kernel)
theorem dX11_mayAt_55 : decode cX11_mayAt 55 = .ok (.iconst 1, 1) := dc1_4 (by decide +kernel)
theorem dX11_mayAt_56 : decode cX11_mayAt 56 = .ok (.iload_n 3, 1) := dc1_29 (by decide +kernel)
theorem dX11_mayAt_57 : decode cX11_mayAt 57 = .ok (.ishl, 1) := dc1_120 (by decide +kernel)
theorem dX11_mayAt_58 : decode cX11_mayAt 58 = .ok (.ior, 1) := dc1_128 (by decide +kernel)
theorem dX11_mayAt_59 : decode cX11_mayAt 59 = .ok (.istore_n 2, 1) := dc1_61 (by decide +kernel)
theorem dX11_mayAt_60 : decode cX11_mayAt 60 = .ok (.iinc 3 1, 3) := dc_iinc (m := 1) (by decide +kernel)
theorem dX11_mayAt_63 : decode cX11_mayAt 63 = .ok (.goto (-37), 3) := dcs_167 (n := 65499) (by decide +kernel)
theorem dX11_mayAt_66 : decode cX11_mayAt 66 = .ok (.iload_n 2, 1) := dc1_28 (by decide +kernel)
theorem dX11_mayAt_67 : decode cX11_mayAt 67 = .ok (.ireturn, 1) := dc1_172 (by decide +kernel)
theorem ggX11_lawTells_X11_termOf : GoodIn wsX11_lawTells wsX11_termOf := gi_sub (fun w h => List.mem_cons_of_mem _ (List.mem_append_left _ (List.mem_append_right _ h))) gd_wsX11_termOf
set_option maxRecDepth 20000 in
theorem gX11_lawTells_X11_termOf : GoodIn wsX11_lawTells (wsV RX11 306 RX11 yX11_termOf wsX11_termOf) := goodIn_app (goodIn_r _ [10, 11, 12, 13] (by decide +kernel) (by decide +kernel)) ggX11_lawTells_X11_termOf
theorem dX11_lawTells_0 : decode cX11_lawTells 0 = .ok (.iconst 4, 1) := dc1_7 (by decide +kernel)
theorem dX11_lawTells_1 : decode cX11_lawTells 1 = .ok (.aload_n 0, 1) := dc1_42 (by decide +kernel)
theorem dX11_lawTells_2 : decode cX11_lawTells 2 = .ok (.getfield 215, 3) := dcw_180 (by decide +kernel)
theorem dX11_lawTells_5 : decode cX11_lawTells 5 = .ok (.imul, 1) := dc1_104 (by decide +kernel)
theorem dX11_lawTells_6 : decode cX11_lawTells 6 = .ok (.iload_n 1, 1) := dc1_27 (by decide +kernel)
theorem dX11_lawTells_7 : decode cX11_lawTells 7 = .ok (.iadd, 1) := dc1_96 (by decide +kernel)
theorem dX11_lawTells_8 : decode cX11_lawTells 8 = .ok (.istore_n 3, 1) := dc1_62 (by decide +kernel)
theorem dX11_lawTells_9 : decode cX11_lawTells 9 = .ok (.aload_n 0, 1) := dc1_42 (by decide +kernel)
theorem dX11_lawTells_10 : decode cX11_lawTells 10 = .ok (.getfield 61, 3) := dcw_180 (by decide +kernel)
theorem dX11_lawTells_13 : decode cX11_lawTells 13 = .ok (.iload_n 3, 1) := dc1_29 (by decide +kernel)
theorem dX11_lawTells_14 : decode cX11_lawTells 14 = .ok (.iaload, 1) := dc1_46 (by decide +kernel)
theorem dX11_lawTells_15 : decode cX11_lawTells 15 = .ok (.aload_n 0, 1) := dc1_42 (by decide +kernel)
theorem dX11_lawTells_16 : decode cX11_lawTells 16 = .ok (.getfield 64, 3) := dcw_180 (by decide +kernel)
theorem dX11_lawTells_19 : decode cX11_lawTells 19 = .ok (.iload_n 3, 1) := dc1_29 (by decide +kernel)
theorem dX11_lawTells_20 : decode cX11_lawTells 20 = .ok (.iaload, 1) := dc1_46 (by decide +kernel)
theorem dX11_lawTells_21 : decode cX11_lawTells 21 = .ok (.if_icmp .ne 5, 3) := dcs_160 (n := 5) (by decide +kernel)
theorem dX11_lawTells_24 : decode cX11_lawTells 24 = .ok (.iload_n 2, 1) := dc1_28 (by decide +kernel)
theorem dX11_lawTells_25 : decode cX11_lawTells 25 = .ok (.ireturn, 1) := dc1_172 (by decide +kernel)
theorem dX11_lawTells_26 : decode cX11_lawTells 26 = .ok (.aload_n 0, 1) := dc1_42 (by decide +kernel)
theorem dX11_lawTells_27 : decode cX11_lawTells 27 = .ok (.iconst 0, 1) := dc1_3 (by decide +kernel)
theorem dX11_lawTells_28 : decode cX11_lawTells 28 = .ok (.putfield 277, 3) := dcw_181 (by decide +kernel)
theorem dX11_lawTells_31 : decode cX11_lawTells 31 = .ok (.aload_n 0, 1) := dc1_42 (by decide +kernel)
theorem dX11_lawTells_32 : decode cX11_lawTells 32 = .ok (.getfield 61, 3) := dcw_180 (by decide +kernel)
theorem dX11_lawTells_35 : decode cX11_lawTells 35 = .ok (.iload_n 3, 1) := dc1_29 (by decide +kernel)
theorem dX11_lawTells_36 : decode cX11_lawTells 36 = .ok (.iaload, 1) := dc1_46 (by decide +kernel)
theorem dX11_lawTells_37 : decode cX11_lawTells 37 = .ok (.istore 4, 2) := dcu_54 (by decide +kernel)
theorem dX11_lawTells_39 : decode cX11_lawTells 39 = .ok (.iload 4, 2) := dcu_21 (by decide +kernel)
theorem dX11_lawTells_41 : decode cX11_lawTells 41 = .ok (.aload_n 0, 1) := dc1_42 (by decide +kernel)
theorem dX11_lawTells_42 : decode cX11_lawTells 42 = .ok (.getfield 64, 3) := dcw_180 (by decide +kernel)
theorem dX11_lawTells_45 : decode cX11_lawTells 45 = .ok (.iload_n 3, 1) := dc1_29 (by decide +kernel)
theorem dX11_lawTells_46 : decode cX11_lawTells 46 = .ok (.iaload, 1) := dc1_46 (by decide +kernel)
theorem dX11_lawTells_47 : decode cX11_lawTells 47 = .ok (.if_icmp .ge 112, 3) := dcs_162 (n := 112) (by decide +kernel)
theorem dX11_lawTells_50 : decode cX11_lawTells 50 = .ok (.aload_n 0, 1) := dc1_42 (by decide +kernel)
theorem dX11_lawTells_51 : decode cX11_lawTells 51 = .ok (.getfield 67, 3) := dcw_180 (by decide +kernel)
theorem dX11_lawTells_54 : decode cX11_lawTells 54 = .ok (.iload 4, 2) := dcu_21 (by decide +kernel)
theorem dX11_lawTells_56 : decode cX11_lawTells 56 = .ok (.baload, 1) := dc1_51 (by decide +kernel)
theorem dX11_lawTells_57 : decode cX11_lawTells 57 = .ok (.ifCond .eq 62, 3) := dcs_153 (n := 62) (by decide +kernel)
theorem dX11_lawTells_60 : decode cX11_lawTells 60 = .ok (.aload_n 0, 1) := dc1_42 (by decide +kernel)
theorem dX11_lawTells_61 : decode cX11_lawTells 61 = .ok (.aload_n 0, 1) := dc1_42 (by decide +kernel)
theorem dX11_lawTells_62 : decode cX11_lawTells 62 = .ok (.getfield 71, 3) := dcw_180 (by decide +kernel)
theorem dX11_lawTells_65 : decode cX11_lawTells 65 = .ok (.iload 4, 2) := dcu_21 (by decide +kernel)
theorem dX11_lawTells_67 : decode cX11_lawTells 67 = .ok (.iaload, 1) := dc1_46 (by decide +kernel)
theorem dX11_lawTells_68 : decode cX11_lawTells 68 = .ok (.aload_n 0, 1) := dc1_42 (by decide +kernel)
theorem dX11_lawTells_69 : decode cX11_lawTells 69 = .ok (.getfield 74, 3) := dcw_180 (by decide +kernel)
theorem dX11_lawTells_72 : decode cX11_lawTells 72 = .ok (.iload 4, 2) := dcu_21 (by decide +kernel)
theorem dX11_lawTells_74 : decode cX11_lawTells 74 = .ok (.iaload, 1) := dc1_46 (by decide +kernel)
theorem dX11_lawTells_75 : decode cX11_lawTells 75 = .ok (.invokevirtual 306, 3) := dcw_182 (by decide +kernel)
theorem dX11_lawTells_78 : decode cX11_lawTells 78 = .ok (.istore 5, 2) := dcu_54 (by decide +kernel)
theorem dX11_lawTells_80 : decode cX11_lawTells 80 = .ok (.aload_n 0, 1) := dc1_42 (by decide +kernel)
theorem dX11_lawTells_81 : decode cX11_lawTells 81 = .ok (.aload_n 0, 1) := dc1_42 (by decide +kernel)
theorem dX11_lawTells_82 : decode cX11_lawTells 82 = .ok (.getfield 74, 3) := dcw_180 (by decide +kernel)
theorem dX11_lawTells_85 : decode cX11_lawTells 85 = .ok (.iload 4, 2) := dcu_21 (by decide +kernel)
theorem dX11_lawTells_87 : decode cX11_lawTells 87 = .ok (.iaload, 1) := dc1_46 (by decide +kernel)
theorem dX11_lawTells_88 : decode cX11_lawTells 88 = .ok (.aload_n 0, 1) := dc1_42 (by decide +kernel)
theorem dX11_lawTells_89 : decode cX11_lawTells 89 = .ok (.getfield 77, 3) := dcw_180 (by decide +kernel)
theorem dX11_lawTells_92 : decode cX11_lawTells 92 = .ok (.iload 4, 2) := dcu_21 (by decide +kernel)
theorem dX11_lawTells_94 : decode cX11_lawTells 94 = .ok (.iaload, 1) := dc1_46 (by decide +kernel)
theorem dX11_lawTells_95 : decode cX11_lawTells 95 = .ok (.invokevirtual 306, 3) := dcw_182 (by decide +kernel)
theorem dX11_lawTells_98 : decode cX11_lawTells 98 = .ok (.istore 6, 2) := dcu_54 (by decide +kernel)
theorem dX11_lawTells_100 : decode cX11_lawTells 100 = .ok (.aload_n 0, 1) := dc1_42 (by decide +kernel)
theorem dX11_lawTells_101 : decode cX11_lawTells 101 = .ok (.getfield 277, 3) := dcw_180 (by decide +kernel)
theorem dX11_lawTells_104 : decode cX11_lawTells 104 = .ok (.ifCond .eq 5, 3) := dcs_153 (n := 5) (by decide +kernel)
theorem dX11_lawTells_107 : decode cX11_lawTells 107 = .ok (.iconst 0, 1) := dc1_3 (by decide +kernel)
theorem dX11_lawTells_108 : decode cX11_lawTells 108 = .ok (.ireturn, 1) := dc1_172 (by decide +kernel)
theorem dX11_lawTells_109 : decode cX11_lawTells 109 = .ok (.iload 5, 2) := dcu_21 (by decide +kernel)
theorem dX11_lawTells_111 : decode cX11_lawTells 111 = .ok (.iload 6, 2) := dcu_21 (by decide +kernel)
theorem dX11_lawTells_113 : decode cX11_lawTells 113 = .ok (.if_icmp .lt 6, 3) := dcs_161 (n := 6) (by decide +kernel)
theorem dX11_lawTells_116 : decode cX11_lawTells 116 = .ok (.goto 37, 3) := dcs_167 (n := 37) (by decide +kernel)
theorem dX11_lawTells_119 : decode cX11_lawTells 119 = .ok (.aload_n 0, 1) := dc1_42 (by decide +kernel)
theorem dX11_lawTells_120 : decode cX11_lawTells 120 = .ok (.aload_n 0, 1) := dc1_42 (by decide +kernel)
theorem dX11_lawTells_121 : decode cX11_lawTells 121 = .ok (.getfield 77, 3) := dcw_180 (by decide +kernel)
theorem dX11_lawTells_124 : decode cX11_lawTells 124 = .ok (.iload 4, 2) := dcu_21 (by decide +kernel)
theorem dX11_lawTells_126 : decode cX11_lawTells 126 = .ok (.iaload, 1) := dc1_46 (by decide +kernel)
theorem dX11_lawTells_127 : decode cX11_lawTells 127 = .ok (.aload_n 0, 1) := dc1_42 (by decide +kernel)
theorem dX11_lawTells_128 : decode cX11_lawTells 128 = .ok (.getfield 80, 3) := dcw_180 (by decide +kernel)
theorem dX11_lawTells_131 : decode cX11_lawTells 131 = .ok (.iload 4, 2) := dcu_21 (by decide +kernel)
theorem dX11_lawTells_133 : decode cX11_lawTells 133 = .ok (.iaload, 1) := dc1_46 (by decide +kernel)
theorem dX11_lawTells_134 : decode cX11_lawTells 134 = .ok (.invokevirtual 306, 3) := dcw_182 (by decide +kernel)
theorem dX11_lawTells_137 : decode cX11_lawTells 137 = .ok (.istore 5, 2) := dcu_54 (by decide +kernel)
theorem dX11_lawTells_139 : decode cX11_lawTells 139 = .ok (.aload_n 0, 1) := dc1_42 (by decide +kernel)
theorem dX11_lawTells_140 : decode cX11_lawTells 140 = .ok (.getfield 277, 3) := dcw_180 (by decide +kernel)
theorem dX11_lawTells_143 : decode cX11_lawTells 143 = .ok (.ifCond .eq 7, 3) := dcs_153 (n := 7) (by decide +kernel)
theorem dX11_lawTells_146 : decode cX11_lawTells 146 = .ok (.iconst 0, 1) := dc1_3 (by decide +kernel)
theorem dX11_lawTells_147 : decode cX11_lawTells 147 = .ok (.goto 5, 3) := dcs_167 (n := 5) (by decide +kernel)
theorem dX11_lawTells_150 : decode cX11_lawTells 150 = .ok (.iload 5, 2) := dcu_21 (by decide +kernel)
theorem dX11_lawTells_152 : decode cX11_lawTells 152 = .ok (.ireturn, 1) := dc1_172 (by decide +kernel)
theorem dX11_lawTells_153 : decode cX11_lawTells 153 = .ok (.iinc 4 1, 3) := dc_iinc (m := 1) (by decide +kernel)
theorem dX11_lawTells_156 : decode cX11_lawTells 156 = .ok (.goto (-117), 3) := dcs_167 (n := 65419) (by decide +kernel)
theorem dX11_lawTells_159 : decode cX11_lawTells 159 = .ok (.iconst 0, 1) := dc1_3 (by decide +kernel)
theorem dX11_lawTells_160 : decode cX11_lawTells 160 = .ok (.ireturn, 1) := dc1_172 (by decide +kernel)
theorem LX11_isWave_215 : Cond.fieldLink RX11 215 "GuessFerryModel" "live" "I" ∈ wsX11_isWave := (List.mem_cons_of_mem _ (List.mem_append_left _ (List.mem_append_left _ (List.mem_of_getElem? (i := 1) rfl))))
theorem LX11_isWave_40 : Cond.fieldLink RX11 40 "GuessFerryModel" "waves" "[I" ∈ wsX11_isWave := (List.mem_cons_of_mem _ (List.mem_append_left _ (List.mem_append_left _ (List.mem_of_getElem? (i := 0) rfl))))
theorem inX11_isWave_X11 : ∀ w ∈ u_ws RX11 TX11 58, w ∈ wsX11_isWave := fun w h => (List.mem_cons_of_mem _ (List.mem_append_right _ h))
set_option maxHeartbeats 4000000 in
set_option maxRecDepth 100000 in
theorem br_isWave {l : Launch} {dC : Nat → ClassId} {dI : Nat → Nat → Nat} {cB cI cJ cZ cS : ClassId} {h : Nat} {a : Nat → Nat} {as : List Value} {r : Int32} {s' : RS} (s : RS) (x1 : Int32) (hB : r_isWave s x1 = some (r, s')) : BlkI l yX11_isWave wsX11_isWave ({ frames := 1, cells := 0, slots := 0, locals := 22 }) cX11_isWave 2 (some .boolean) (dC, dI) (tysA cB cI cJ cZ cS) as 0 (mwS cB cI cJ cZ h a s) [(0, .ref h), (1, .int x1)] [] (fun x u => x = r ∧ u = (mwS cB cI cJ cZ h a s')) := by
  intro p e s0 m below meth c A E H locs ls hP hD hS hl
  obtain ⟨C, hr, hlocks, hA, hK, hN⟩ := id E
  obtain ⟨hx, hb, hml, hown, hts⟩ := id C
  unfold r_isWave at hB
  refine lv_iload_n hx hb dX11_isWave_0 rfl (lv_at hl 1 rfl) ?_
  refine lv_iconst (v := 0) hx hb dX11_isWave_1 (by decide) ?_
  refine lv_aload_n hx hb dX11_isWave_2 rfl (lv_at hl 0 rfl) ?_
  refine q_get (v := .ref (a 20)) C inX11_isWave_X11 hK hP 0 rfl rfl 20 (by decide) rfl LX11_isWave_40 rfl dX11_isWave_3 ?_
  refine lv_aload_n hx hb dX11_isWave_6 rfl (lv_at hl 0 rfl) ?_
  refine q_get (v := .int (s.v 18)) C inX11_isWave_X11 hK hP 0 rfl rfl 18 (by decide) rfl LX11_isWave_215 rfl dX11_isWave_7 ?_
  obtain ⟨g1, hB⟩ := guard_inv hB
  refine q_iald (x := (s.f 20 (Int32.toNatClampNeg (s.v 18)))) C hK hP 8 1 rfl rfl (vpb_in g1) dX11_isWave_10 rfl ?_
  refine lv_iconst (v := 1) hx hb dX11_isWave_11 (by decide) ?_
  refine lv_isub hx hb dX11_isWave_12 ?_
  obtain ⟨q_, hc, hB⟩ := bindP_inv hB
  refine q_goi0 (va_runS (As := [.int x1, .int 0, .int ((s.f 20 (Int32.toNatClampNeg (s.v 18))) - 1)]) (rest := []) C (cr_in hc _) (va_cwS 3 hts gX11_isWave_X11_in rfl rfl rfl (by decide +kernel) ⟨Nat.le_of_ble_eq_true rfl, Nat.le_of_ble_eq_true rfl⟩) (q_pre0 hN hK) rfl rfl hl.1 rfl (lv_room (Nat.le_of_ble_eq_true rfl)) dX11_isWave_13 ⟨Nat.le_of_ble_eq_true rfl, Nat.le_of_ble_eq_true rfl⟩) hP hD hS hA (fun r2 w1 H locs hw hP hS => ?_)
  subst hw
  obtain ⟨z3, hB⟩ := guard_inv hB
  exact q_zret C hr hlocks z3 hK hP hD hS (Nat.le_of_ble_eq_true rfl) (Nat.le_of_ble_eq_true rfl) dX11_isWave_16 (by cases hB; exact ⟨rfl, rfl⟩)
theorem cr_isWave {l : Launch} {dC : Nat → ClassId} {dI : Nat → Nat → Nat} {cB cI cJ cZ cS : ClassId} {h : Nat} {a : Nat → Nat} {r : Int32} {s' : RS} {s : RS} {x1 : Int32} (hB : r_isWave s x1 = some (r, s')) : CI l yX11_isWave wsX11_isWave ({ frames := 1, cells := 0, slots := 0, locals := 22 }) (dC, dI) (tysA cB cI cJ cZ cS) (mwS cB cI cJ cZ h a s) [.ref h, .int x1] (fun x u => x = r ∧ u = (mwS cB cI cJ cZ h a s')) :=
  CI_of (cc := cX11_isWave) (maxL := 2) (ret := (some .boolean)) (by decide) rfl (Nat.le_of_ble_eq_true rfl) (br_isWave _ _ hB)
theorem LX11_isParty_215 : Cond.fieldLink RX11 215 "GuessFerryModel" "live" "I" ∈ wsX11_isParty := (List.mem_cons_of_mem _ (List.mem_append_left _ (List.mem_append_left _ (List.mem_of_getElem? (i := 1) rfl))))
theorem LX11_isParty_49 : Cond.fieldLink RX11 49 "GuessFerryModel" "parties" "[I" ∈ wsX11_isParty := (List.mem_cons_of_mem _ (List.mem_append_left _ (List.mem_append_left _ (List.mem_of_getElem? (i := 0) rfl))))
theorem inX11_isParty_X11 : ∀ w ∈ u_ws RX11 TX11 58, w ∈ wsX11_isParty := fun w h => (List.mem_cons_of_mem _ (List.mem_append_right _ h))
set_option maxHeartbeats 4000000 in
set_option maxRecDepth 100000 in
theorem br_isParty {l : Launch} {dC : Nat → ClassId} {dI : Nat → Nat → Nat} {cB cI cJ cZ cS : ClassId} {h : Nat} {a : Nat → Nat} {as : List Value} {r : Int32} {s' : RS} (s : RS) (x1 : Int32) (hB : r_isParty s x1 = some (r, s')) : BlkI l yX11_isParty wsX11_isParty ({ frames := 1, cells := 0, slots := 0, locals := 22 }) cX11_isParty 2 (some .boolean) (dC, dI) (tysA cB cI cJ cZ cS) as 0 (mwS cB cI cJ cZ h a s) [(0, .ref h), (1, .int x1)] [] (fun x u => x = r ∧ u = (mwS cB cI cJ cZ h a s')) := by
  intro p e s0 m below meth c A E H locs ls hP hD hS hl
  obtain ⟨C, hr, hlocks, hA, hK, hN⟩ := id E
  obtain ⟨hx, hb, hml, hown, hts⟩ := id C
  unfold r_isParty at hB
  refine lv_iload_n hx hb dX11_isParty_0 rfl (lv_at hl 1 rfl) ?_
  refine lv_iconst (v := 0) hx hb dX11_isParty_1 (by decide) ?_
  refine lv_aload_n hx hb dX11_isParty_2 rfl (lv_at hl 0 rfl) ?_
  refine q_get (v := .ref (a 23)) C inX11_isParty_X11 hK hP 0 rfl rfl 23 (by decide) rfl LX11_isParty_49 rfl dX11_isParty_3 ?_
  refine lv_aload_n hx hb dX11_isParty_6 rfl (lv_at hl 0 rfl) ?_
  refine q_get (v := .int (s.v 18)) C inX11_isParty_X11 hK hP 0 rfl rfl 18 (by decide) rfl LX11_isParty_215 rfl dX11_isParty_7 ?_
  obtain ⟨g1, hB⟩ := guard_inv hB
  refine q_iald (x := (s.f 23 (Int32.toNatClampNeg (s.v 18)))) C hK hP 11 1 rfl rfl (vpb_in g1) dX11_isParty_10 rfl ?_
  refine lv_iconst (v := 1) hx hb dX11_isParty_11 (by decide) ?_
  refine lv_isub hx hb dX11_isParty_12 ?_
  obtain ⟨q_, hc, hB⟩ := bindP_inv hB
  refine q_goi0 (va_runS (As := [.int x1, .int 0, .int ((s.f 23 (Int32.toNatClampNeg (s.v 18))) - 1)]) (rest := []) C (cr_in hc _) (va_cwS 3 hts gX11_isParty_X11_in rfl rfl rfl (by decide +kernel) ⟨Nat.le_of_ble_eq_true rfl, Nat.le_of_ble_eq_true rfl⟩) (q_pre0 hN hK) rfl rfl hl.1 rfl (lv_room (Nat.le_of_ble_eq_true rfl)) dX11_isParty_13 ⟨Nat.le_of_ble_eq_true rfl, Nat.le_of_ble_eq_true rfl⟩) hP hD hS hA (fun r2 w1 H locs hw hP hS => ?_)
  subst hw
  obtain ⟨z3, hB⟩ := guard_inv hB
  exact q_zret C hr hlocks z3 hK hP hD hS (Nat.le_of_ble_eq_true rfl) (Nat.le_of_ble_eq_true rfl) dX11_isParty_16 (by cases hB; exact ⟨rfl, rfl⟩)
theorem cr_isParty {l : Launch} {dC : Nat → ClassId} {dI : Nat → Nat → Nat} {cB cI cJ cZ cS : ClassId} {h : Nat} {a : Nat → Nat} {r : Int32} {s' : RS} {s : RS} {x1 : Int32} (hB : r_isParty s x1 = some (r, s')) : CI l yX11_isParty wsX11_isParty ({ frames := 1, cells := 0, slots := 0, locals := 22 }) (dC, dI) (tysA cB cI cJ cZ cS) (mwS cB cI cJ cZ h a s) [.ref h, .int x1] (fun x u => x = r ∧ u = (mwS cB cI cJ cZ h a s')) :=
  CI_of (cc := cX11_isParty) (maxL := 2) (ret := (some .boolean)) (by decide) rfl (Nat.le_of_ble_eq_true rfl) (br_isParty _ _ hB)
theorem LX11_guesses_104 : Cond.fieldLink RX11 104 "GuessFerryModel" "sixes" "[I" ∈ wsX11_guesses := (List.mem_cons_of_mem _ (List.mem_append_left _ (List.mem_of_getElem? (i := 0) rfl)))
theorem LX11_guesses_215 : Cond.fieldLink RX11 215 "GuessFerryModel" "live" "I" ∈ wsX11_guesses := (List.mem_cons_of_mem _ (List.mem_append_left _ (List.mem_of_getElem? (i := 2) rfl)))
theorem LX11_guesses_40 : Cond.fieldLink RX11 40 "GuessFerryModel" "waves" "[I" ∈ wsX11_guesses := (List.mem_cons_of_mem _ (List.mem_append_left _ (List.mem_of_getElem? (i := 1) rfl)))
theorem inX11_guesses_X11 : ∀ w ∈ u_ws RX11 TX11 58, w ∈ wsX11_guesses := fun _ h => List.mem_cons_of_mem _ (List.mem_append_right _ h)
set_option maxHeartbeats 4000000 in
set_option maxRecDepth 100000 in
theorem br_guesses {l : Launch} {dC : Nat → ClassId} {dI : Nat → Nat → Nat} {cB cI cJ cZ cS : ClassId} {h : Nat} {a : Nat → Nat} {as : List Value} {r : Int32} {s' : RS} (s : RS) (hB : r_guesses s = some (r, s')) : BlkI l yX11_guesses wsX11_guesses ({ frames := 0, cells := 0, slots := 0, locals := 0 }) cX11_guesses 1 (some .int) (dC, dI) (tysA cB cI cJ cZ cS) as 0 (mwS cB cI cJ cZ h a s) [(0, .ref h)] [] (fun x u => x = r ∧ u = (mwS cB cI cJ cZ h a s')) := by
  intro p e s0 m below meth c A E H locs ls hP hD hS hl
  obtain ⟨C, hr, hlocks, hA, hK, hN⟩ := id E
  obtain ⟨hx, hb, hml, hown, hts⟩ := id C
  unfold r_guesses at hB
  refine lv_aload_n hx hb dX11_guesses_0 rfl (lv_at hl 0 rfl) ?_
  refine q_get (v := .ref (a 46)) C inX11_guesses_X11 hK hP 0 rfl rfl 46 (by decide) rfl LX11_guesses_104 rfl dX11_guesses_1 ?_
  refine lv_aload_n hx hb dX11_guesses_4 rfl (lv_at hl 0 rfl) ?_
  refine q_get (v := .ref (a 20)) C inX11_guesses_X11 hK hP 0 rfl rfl 20 (by decide) rfl LX11_guesses_40 rfl dX11_guesses_5 ?_
  refine lv_aload_n hx hb dX11_guesses_8 rfl (lv_at hl 0 rfl) ?_
  refine q_get (v := .int (s.v 18)) C inX11_guesses_X11 hK hP 0 rfl rfl 18 (by decide) rfl LX11_guesses_215 rfl dX11_guesses_9 ?_
  obtain ⟨g1, hB⟩ := guard_inv hB
  refine q_iald (x := (s.f 20 (Int32.toNatClampNeg (s.v 18)))) C hK hP 8 1 rfl rfl (vpb_in g1) dX11_guesses_12 rfl ?_
  obtain ⟨g2, hB⟩ := guard_inv hB
  refine q_iald (x := (s.f 46 (Int32.toNatClampNeg (s.f 20 (Int32.toNatClampNeg (s.v 18)))))) C hK hP 29 1 rfl rfl (vpb_in g2) dX11_guesses_13 rfl ?_
  exact q_iret C hr hlocks hK hP hD hS (Nat.le_of_ble_eq_true rfl) (Nat.le_of_ble_eq_true rfl) dX11_guesses_14 (by cases hB; exact ⟨rfl, rfl⟩)
theorem cr_guesses {l : Launch} {dC : Nat → ClassId} {dI : Nat → Nat → Nat} {cB cI cJ cZ cS : ClassId} {h : Nat} {a : Nat → Nat} {r : Int32} {s' : RS} {s : RS} (hB : r_guesses s = some (r, s')) : CI l yX11_guesses wsX11_guesses ({ frames := 0, cells := 0, slots := 0, locals := 0 }) (dC, dI) (tysA cB cI cJ cZ cS) (mwS cB cI cJ cZ h a s) [.ref h] (fun x u => x = r ∧ u = (mwS cB cI cJ cZ h a s')) :=
  CI_of (cc := cX11_guesses) (maxL := 1) (ret := (some .int)) (by decide) rfl (Nat.le_of_ble_eq_true rfl) (br_guesses _ hB)
set_option maxHeartbeats 4000000 in
set_option maxRecDepth 100000 in
theorem br_isGuess {l : Launch} {dC : Nat → ClassId} {dI : Nat → Nat → Nat} {cB cI cJ cZ cS : ClassId} {h : Nat} {a : Nat → Nat} {as : List Value} {r : Int32} {s' : RS} (s : RS) (x1 : Int32) (hB : r_isGuess s x1 = some (r, s')) : BlkI l yX11_isGuess wsX11_isGuess ({ frames := 1, cells := 0, slots := 0, locals := 22 }) cX11_isGuess 2 (some .boolean) (dC, dI) (tysA cB cI cJ cZ cS) as 0 (mwS cB cI cJ cZ h a s) [(0, .ref h), (1, .int x1)] [] (fun x u => x = r ∧ u = (mwS cB cI cJ cZ h a s')) := by
  intro p e s0 m below meth c A E H locs ls hP hD hS hl
  obtain ⟨C, hr, hlocks, hA, hK, hN⟩ := id E
  obtain ⟨hx, hb, hml, hown, hts⟩ := id C
  unfold r_isGuess at hB
  refine lv_iload_n hx hb dX11_isGuess_0 rfl (lv_at hl 1 rfl) ?_
  refine lv_iconst (v := 0) hx hb dX11_isGuess_1 (by decide) ?_
  refine lv_aload_n hx hb dX11_isGuess_2 rfl (lv_at hl 0 rfl) ?_
  obtain ⟨q_, s1, hc, hB⟩ := bindI_inv hB
  refine q_goiF (va_runV (As := []) (rest := [.int 0, .int x1]) C (cr_guesses hc _) (cwV 0 hts gX11_isGuess_X11_guesses rfl rfl rfl (by decide +kernel) ⟨Nat.le_of_ble_eq_true rfl, Nat.le_of_ble_eq_true rfl⟩) (q_preV hK hP (ci := 11) (q0 := 0) rfl rfl rfl (q_preF hN hK hP hD)) rfl rfl hl.1 rfl (lv_room (Nat.le_of_ble_eq_true rfl)) dX11_isGuess_3 ⟨Nat.le_of_ble_eq_true rfl, Nat.le_of_ble_eq_true rfl⟩) hD hS hA (fun r2 w1 H locs hw hP hD hS => ?_)
  obtain ⟨hq_, hw⟩ := hw; subst hw; subst hq_
  refine lv_iconst (v := 1) hx hb dX11_isGuess_6 (by decide) ?_
  refine lv_isub hx hb dX11_isGuess_7 ?_
  obtain ⟨q_, hc, hB⟩ := bindP_inv hB
  refine q_goi0 (va_runS (As := [.int x1, .int 0, .int (r2 - 1)]) (rest := []) C (cr_in hc _) (va_cwS 3 hts gX11_isGuess_X11_in rfl rfl rfl (by decide +kernel) ⟨Nat.le_of_ble_eq_true rfl, Nat.le_of_ble_eq_true rfl⟩) (q_pre0 hN hK) rfl rfl hl.1 rfl (lv_room (Nat.le_of_ble_eq_true rfl)) dX11_isGuess_8 ⟨Nat.le_of_ble_eq_true rfl, Nat.le_of_ble_eq_true rfl⟩) hP hD hS hA (fun r3 w1 H locs hw hP hS => ?_)
  subst hw
  obtain ⟨z4, hB⟩ := guard_inv hB
  exact q_zret C hr hlocks z4 hK hP hD hS (Nat.le_of_ble_eq_true rfl) (Nat.le_of_ble_eq_true rfl) dX11_isGuess_11 (by cases hB; exact ⟨rfl, rfl⟩)
theorem cr_isGuess {l : Launch} {dC : Nat → ClassId} {dI : Nat → Nat → Nat} {cB cI cJ cZ cS : ClassId} {h : Nat} {a : Nat → Nat} {r : Int32} {s' : RS} {s : RS} {x1 : Int32} (hB : r_isGuess s x1 = some (r, s')) : CI l yX11_isGuess wsX11_isGuess ({ frames := 1, cells := 0, slots := 0, locals := 22 }) (dC, dI) (tysA cB cI cJ cZ cS) (mwS cB cI cJ cZ h a s) [.ref h, .int x1] (fun x u => x = r ∧ u = (mwS cB cI cJ cZ h a s')) :=
  CI_of (cc := cX11_isGuess) (maxL := 2) (ret := (some .boolean)) (by decide) rfl (Nat.le_of_ble_eq_true rfl) (br_isGuess _ _ hB)
set_option maxHeartbeats 4000000 in
set_option maxRecDepth 100000 in
theorem br_isThing {l : Launch} {dC : Nat → ClassId} {dI : Nat → Nat → Nat} {cB cI cJ cZ cS : ClassId} {as : List Value} {r : Int32} (x0 : Int32) (hB : r_isThing x0 = some r) : BlkI l yX11_isThing wsX11_isThing ({ frames := 1, cells := 0, slots := 0, locals := 22 }) cX11_isThing 1 (some .boolean) (dC, dI) (tysA cB cI cJ cZ cS) as 0 [] [(0, .int x0)] [] (fun x _ => x = r) := by
  intro p e s0 m below meth c A E H locs ls hP hD hS hl
  obtain ⟨C, hr, hlocks, hA, hK, hN⟩ := id E
  obtain ⟨hx, hb, hml, hown, hts⟩ := id C
  unfold r_isThing at hB
  refine lv_iload_n hx hb dX11_isThing_0 rfl (lv_at hl 0 rfl) ?_
  refine lv_iconst (v := 0) hx hb dX11_isThing_1 (by decide) ?_
  refine lv_iconst (v := 5) hx hb dX11_isThing_2 (by decide) ?_
  obtain ⟨q_, hc, hB⟩ := bindP_inv hB
  refine q_goi0 (va_runS (As := [.int x0, .int 0, .int 5]) (rest := []) C (cr_in hc _) (va_cwS 3 hts gX11_isThing_X11_in rfl rfl rfl (by decide +kernel) ⟨Nat.le_of_ble_eq_true rfl, Nat.le_of_ble_eq_true rfl⟩) (q_pre0 hN hK) rfl rfl hl.1 rfl (lv_room (Nat.le_of_ble_eq_true rfl)) dX11_isThing_3 ⟨Nat.le_of_ble_eq_true rfl, Nat.le_of_ble_eq_true rfl⟩) hP hD hS hA (fun r1 w1 H locs hw hP hS => ?_)
  subst hw
  obtain ⟨z2, hB⟩ := guard_inv hB
  exact q_zret C hr hlocks z2 hK hP hD hS (Nat.le_of_ble_eq_true rfl) (Nat.le_of_ble_eq_true rfl) dX11_isThing_6 (by cases hB; rfl)
theorem cr_isThing {l : Launch} {dC : Nat → ClassId} {dI : Nat → Nat → Nat} {cB cI cJ cZ cS : ClassId} {r : Int32} {x0 : Int32} (hB : r_isThing x0 = some r) : CI l yX11_isThing wsX11_isThing ({ frames := 1, cells := 0, slots := 0, locals := 22 }) (dC, dI) (tysA cB cI cJ cZ cS) [] [.int x0] (fun x _ => x = r) :=
  CI_of (cc := cX11_isThing) (maxL := 1) (ret := (some .boolean)) (by decide) rfl (Nat.le_of_ble_eq_true rfl) (br_isThing _ hB)
theorem LX11_thingAt_104 : Cond.fieldLink RX11 104 "GuessFerryModel" "sixes" "[I" ∈ wsX11_thingAt := (List.mem_cons_of_mem _ (List.mem_append_left _ (List.mem_of_getElem? (i := 0) rfl)))
theorem inX11_thingAt_X11 : ∀ w ∈ u_ws RX11 TX11 58, w ∈ wsX11_thingAt := fun _ h => List.mem_cons_of_mem _ (List.mem_append_right _ h)
set_option maxHeartbeats 4000000 in
set_option maxRecDepth 100000 in
theorem br_thingAt {l : Launch} {dC : Nat → ClassId} {dI : Nat → Nat → Nat} {cB cI cJ cZ cS : ClassId} {h : Nat} {a : Nat → Nat} {as : List Value} {r : Int32} {s' : RS} (s : RS) (x1 : Int32) (x2 : Int32) (hB : r_thingAt s x1 x2 = some (r, s')) : BlkI l yX11_thingAt wsX11_thingAt ({ frames := 0, cells := 0, slots := 0, locals := 0 }) cX11_thingAt 3 (some .int) (dC, dI) (tysA cB cI cJ cZ cS) as 0 (mwS cB cI cJ cZ h a s) [(0, .ref h), (1, .int x1), (2, .int x2)] [] (fun x u => x = r ∧ u = (mwS cB cI cJ cZ h a s')) := by
  intro p e s0 m below meth c A E H locs ls hP hD hS hl
  obtain ⟨C, hr, hlocks, hA, hK, hN⟩ := id E
  obtain ⟨hx, hb, hml, hown, hts⟩ := id C
  unfold r_thingAt at hB
  refine lv_iload_n hx hb dX11_thingAt_0 rfl (lv_at hl 1 rfl) ?_
  refine lv_aload_n hx hb dX11_thingAt_1 rfl (lv_at hl 0 rfl) ?_
  refine q_get (v := .ref (a 46)) C inX11_thingAt_X11 hK hP 0 rfl rfl 46 (by decide) rfl LX11_thingAt_104 rfl dX11_thingAt_2 ?_
  refine lv_iload_n hx hb dX11_thingAt_5 rfl (lv_at hl 2 rfl) ?_
  obtain ⟨g1, hB⟩ := guard_inv hB
  refine q_iald (x := (s.f 46 (Int32.toNatClampNeg x2))) C hK hP 29 1 rfl rfl (vpb_in g1) dX11_thingAt_6 rfl ?_
  obtain ⟨z2, hB⟩ := guard_inv hB
  refine lv_idiv hx hb dX11_thingAt_7 z2 ?_
  refine lv_bipush (v := 6) hx hb dX11_thingAt_8 (by decide) ?_
  refine lv_irem hx hb dX11_thingAt_10 (by decide) ?_
  exact q_iret C hr hlocks hK hP hD hS (Nat.le_of_ble_eq_true rfl) (Nat.le_of_ble_eq_true rfl) dX11_thingAt_11 (by cases hB; exact ⟨rfl, rfl⟩)
theorem cr_thingAt {l : Launch} {dC : Nat → ClassId} {dI : Nat → Nat → Nat} {cB cI cJ cZ cS : ClassId} {h : Nat} {a : Nat → Nat} {r : Int32} {s' : RS} {s : RS} {x1 : Int32} {x2 : Int32} (hB : r_thingAt s x1 x2 = some (r, s')) : CI l yX11_thingAt wsX11_thingAt ({ frames := 0, cells := 0, slots := 0, locals := 0 }) (dC, dI) (tysA cB cI cJ cZ cS) (mwS cB cI cJ cZ h a s) [.ref h, .int x1, .int x2] (fun x u => x = r ∧ u = (mwS cB cI cJ cZ h a s')) :=
  CI_of (cc := cX11_thingAt) (maxL := 3) (ret := (some .int)) (by decide) rfl (Nat.le_of_ble_eq_true rfl) (br_thingAt _ _ _ hB)
theorem LX11_copies_101 : Cond.fieldLink RX11 101 "GuessFerryModel" "row" "[I" ∈ wsX11_copies := (List.mem_cons_of_mem _ (List.mem_append_left _ (List.mem_of_getElem? (i := 0) rfl)))
theorem LX11_copies_215 : Cond.fieldLink RX11 215 "GuessFerryModel" "live" "I" ∈ wsX11_copies := (List.mem_cons_of_mem _ (List.mem_append_left _ (List.mem_of_getElem? (i := 3) rfl)))
theorem LX11_copies_289 : Cond.fieldLink RX11 289 "GuessFerryModel" "lots" "I" ∈ wsX11_copies := (List.mem_cons_of_mem _ (List.mem_append_left _ (List.mem_of_getElem? (i := 4) rfl)))
theorem LX11_copies_58 : Cond.fieldLink RX11 58 "GuessFerryModel" "seed" "[I" ∈ wsX11_copies := (List.mem_cons_of_mem _ (List.mem_append_left _ (List.mem_of_getElem? (i := 2) rfl)))
theorem LX11_copies_98 : Cond.fieldLink RX11 98 "GuessFerryModel" "now" "[I" ∈ wsX11_copies := (List.mem_cons_of_mem _ (List.mem_append_left _ (List.mem_of_getElem? (i := 1) rfl)))
theorem inX11_copies_X11 : ∀ w ∈ u_ws RX11 TX11 58, w ∈ wsX11_copies := fun _ h => List.mem_cons_of_mem _ (List.mem_append_right _ h)
set_option maxHeartbeats 4000000 in
set_option maxRecDepth 100000 in
theorem br_copies_2 {l : Launch} {dC : Nat → ClassId} {dI : Nat → Nat → Nat} {cB cI cJ cZ cS : ClassId} {h : Nat} {a : Nat → Nat} {as : List Value} {s' : RS} {k2 : RS → Int32 → Option RS} (hk2 : ∀ (s : RS) (x1 : Int32), k2 s x1 = some s' → BlkV l yX11_copies wsX11_copies ({ frames := 0, cells := 0, slots := 0, locals := 0 }) cX11_copies 2 none (dC, dI) (tysA cB cI cJ cZ cS) as 2 (mwS cB cI cJ cZ h a s) [(0, .ref h), (1, .int x1)] [] (fun u => u = (mwS cB cI cJ cZ h a s'))) (s : RS) (x1 : Int32) (hB : r_copies_2 k2 s x1 = some s') : BlkV l yX11_copies wsX11_copies ({ frames := 0, cells := 0, slots := 0, locals := 0 }) cX11_copies 2 none (dC, dI) (tysA cB cI cJ cZ cS) as 2 (mwS cB cI cJ cZ h a s) [(0, .ref h), (1, .int x1)] [] (fun u => u = (mwS cB cI cJ cZ h a s')) := by
  intro p e s0 m below meth c A E H locs ls hP hD hS hl
  obtain ⟨C, hr, hlocks, hA, hK, hN⟩ := id E
  obtain ⟨hx, hb, hml, hown, hts⟩ := id C
  unfold r_copies_2 at hB
  refine lv_iload_n hx hb dX11_copies_2 rfl (lv_at hl 1 rfl) ?_
  refine lv_bipush (v := 29) hx hb dX11_copies_3 (by decide) ?_
  refine lv_icmp_ge (tgt := 26) hx hb dX11_copies_5 (by decide) (fun c1 => ?_) (fun c1 => ?_)
  · have hB := if_p hB c1
    refine lv_aload_n hx hb dX11_copies_26 rfl (lv_at hl 0 rfl) ?_
    refine lv_aload_n hx hb dX11_copies_27 rfl (lv_at hl 0 rfl) ?_
    refine q_get (v := .ref (a 26)) C inX11_copies_X11 hK hP 0 rfl rfl 26 (by decide) rfl LX11_copies_58 rfl dX11_copies_28 ?_
    refine lv_aload_n hx hb dX11_copies_31 rfl (lv_at hl 0 rfl) ?_
    refine q_get (v := .int (s.v 18)) C inX11_copies_X11 hK hP 0 rfl rfl 18 (by decide) rfl LX11_copies_215 rfl dX11_copies_32 ?_
    obtain ⟨g2, hB⟩ := guard_inv hB
    refine q_iald (x := (s.f 26 (Int32.toNatClampNeg (s.v 18)))) C hK hP 14 1 rfl rfl (vpb_in g2) dX11_copies_35 rfl ?_
    obtain ⟨s3, hs4, hB⟩ := letS_inv hB
    refine q_put (ty := .int) (w2 := (mwS cB cI cJ cZ h a s3)) tyX11 tyX11_ok nmX11 C inX11_copies_X11 hK hP hD hS 0 rfl rfl 45 (by decide) rfl LX11_copies_289 rfl (by decide +kernel) (rfl) rfl (Nat.le_of_ble_eq_true rfl) dX11_copies_36 (mwS_v45 hs4) (fun H locs hP hD hS => ?_)
    exact q_vret C hr hlocks hK hP hD hS (Nat.le_of_ble_eq_true rfl) (Nat.le_of_ble_eq_true rfl) dX11_copies_39 (by cases hB; rfl)
  · have hB := if_n hB c1
    refine lv_aload_n hx hb dX11_copies_8 rfl (lv_at hl 0 rfl) ?_
    refine q_get (v := .ref (a 44)) C inX11_copies_X11 hK hP 0 rfl rfl 44 (by decide) rfl LX11_copies_101 rfl dX11_copies_9 ?_
    refine lv_iload_n hx hb dX11_copies_12 rfl (lv_at hl 1 rfl) ?_
    refine lv_aload_n hx hb dX11_copies_13 rfl (lv_at hl 0 rfl) ?_
    refine q_get (v := .ref (a 43)) C inX11_copies_X11 hK hP 0 rfl rfl 43 (by decide) rfl LX11_copies_98 rfl dX11_copies_14 ?_
    refine lv_iload_n hx hb dX11_copies_17 rfl (lv_at hl 1 rfl) ?_
    obtain ⟨g5, hB⟩ := guard_inv hB
    refine q_iald (x := (s.f 43 (Int32.toNatClampNeg x1))) C hK hP 27 1 rfl rfl (vpb_in g5) dX11_copies_18 rfl ?_
    obtain ⟨g6, hB⟩ := guard_inv hB
    obtain ⟨s7, hs8, hB⟩ := letS_inv hB
    refine q_iast (f2 := (upd (s.f 44) (Int32.toNatClampNeg x1) (s.f 43 (Int32.toNatClampNeg x1)))) (w2 := (mwS cB cI cJ cZ h a s7)) C hK hP hD hS 28 1 rfl rfl (vpb_in g6) dX11_copies_19 rfl (mwS_f44 hs8) (fun H locs hP hD hS => ?_)
    refine lv_iinc (v := (x1 + 1)) (lv' := [(1, .int (x1 + 1)), (0, .ref h)]) hx hb dX11_copies_20 hl (k := 1) rfl (rfl) (by decide) rfl (fun ls hl => ?_)
    refine lv_goto (tgt := 2) hx hb dX11_copies_23 (by decide) ?_
    exact hk2 _ _ hB p e s0 m below meth c A E H locs ls hP hD hS (lv_sub hl [1, 0] rfl)
theorem br_copies_2L {l : Launch} {dC : Nat → ClassId} {dI : Nat → Nat → Nat} {cB cI cJ cZ cS : ClassId} {h : Nat} {a : Nat → Nat} {as : List Value} {s' : RS} : ∀ (n : Nat) (s : RS) (x1 : Int32), r_copies_2L n s x1 = some s' → BlkV l yX11_copies wsX11_copies ({ frames := 0, cells := 0, slots := 0, locals := 0 }) cX11_copies 2 none (dC, dI) (tysA cB cI cJ cZ cS) as 2 (mwS cB cI cJ cZ h a s) [(0, .ref h), (1, .int x1)] [] (fun u => u = (mwS cB cI cJ cZ h a s')) := by
  intro n
  induction n with
  | zero => intro s x1 hB; exact none_ne hB
  | succ n ih => intro s x1 hB; exact br_copies_2 ih _ _ hB
set_option maxHeartbeats 4000000 in
set_option maxRecDepth 100000 in
theorem br_copies {l : Launch} {dC : Nat → ClassId} {dI : Nat → Nat → Nat} {cB cI cJ cZ cS : ClassId} {h : Nat} {a : Nat → Nat} {as : List Value} {s' : RS} (s : RS) (hB : r_copies s = some s') : BlkV l yX11_copies wsX11_copies ({ frames := 0, cells := 0, slots := 0, locals := 0 }) cX11_copies 2 none (dC, dI) (tysA cB cI cJ cZ cS) as 0 (mwS cB cI cJ cZ h a s) [(0, .ref h)] [] (fun u => u = (mwS cB cI cJ cZ h a s')) := by
  intro p e s0 m below meth c A E H locs ls hP hD hS hl
  obtain ⟨C, hr, hlocks, hA, hK, hN⟩ := id E
  obtain ⟨hx, hb, hml, hown, hts⟩ := id C
  unfold r_copies at hB
  refine lv_iconst (v := 0) hx hb dX11_copies_0 (by decide) ?_
  refine lv_istore_n (lv' := [(1, .int 0), (0, .ref h)]) hx hb dX11_copies_1 rfl hl (by decide) rfl (fun ls hl => ?_)
  exact br_copies_2L fu _ _ hB p e s0 m below meth c A E H locs ls hP hD hS (lv_sub hl [1, 0] rfl)
theorem cr_copies {l : Launch} {dC : Nat → ClassId} {dI : Nat → Nat → Nat} {cB cI cJ cZ cS : ClassId} {h : Nat} {a : Nat → Nat} {s' : RS} {s : RS} (hB : r_copies s = some s') : CV l yX11_copies wsX11_copies ({ frames := 0, cells := 0, slots := 0, locals := 0 }) (dC, dI) (tysA cB cI cJ cZ cS) (mwS cB cI cJ cZ h a s) [.ref h] (fun u => u = (mwS cB cI cJ cZ h a s')) :=
  CV_of (cc := cX11_copies) (maxL := 2) (ret := none) (by decide) rfl (Nat.le_of_ble_eq_true rfl) (br_copies _ hB)
theorem LX11_mixed_K292 : Cond.constant RX11 292 1103515245 ∈ wsX11_mixed := (List.mem_cons_of_mem _ (List.mem_of_getElem? (i := 0) rfl))
set_option maxHeartbeats 4000000 in
set_option maxRecDepth 100000 in
theorem br_mixed {l : Launch} {dC : Nat → ClassId} {dI : Nat → Nat → Nat} {cB cI cJ cZ cS : ClassId} {as : List Value} {r : Int32} (x0 : Int32) (x1 : Int32) (hB : r_mixed x0 x1 = some r) : BlkI l yX11_mixed wsX11_mixed ({ frames := 0, cells := 0, slots := 0, locals := 0 }) cX11_mixed 3 (some .int) (dC, dI) (tysA cB cI cJ cZ cS) as 0 [] [(0, .int x0), (1, .int x1)] [] (fun x _ => x = r) := by
  intro p e s0 m below meth c A E H locs ls hP hD hS hl
  obtain ⟨C, hr, hlocks, hA, hK, hN⟩ := id E
  obtain ⟨hx, hb, hml, hown, hts⟩ := id C
  unfold r_mixed at hB
  refine lv_iload_n hx hb dX11_mixed_0 rfl (lv_at hl 0 rfl) ?_
  refine lv_iload_n hx hb dX11_mixed_1 rfl (lv_at hl 1 rfl) ?_
  refine lv_ixor hx hb dX11_mixed_2 ?_
  refine lv_ldcw (v := 1103515245) hx hb hown (hts _ LX11_mixed_K292) dX11_mixed_3 ?_
  refine lv_imul hx hb dX11_mixed_6 ?_
  refine lv_sipush (v := 12345) hx hb dX11_mixed_7 (by decide) ?_
  refine lv_iadd hx hb dX11_mixed_10 ?_
  refine lv_istore_n (lv' := [(2, .int (((x0 ^^^ x1) * 1103515245) + 12345)), (0, .int x0), (1, .int x1)]) hx hb dX11_mixed_11 rfl hl (by decide) rfl (fun ls hl => ?_)
  refine lv_iload_n hx hb dX11_mixed_12 rfl (lv_at hl 0 rfl) ?_
  refine lv_iload_n hx hb dX11_mixed_13 rfl (lv_at hl 0 rfl) ?_
  refine lv_bipush (v := 15) hx hb dX11_mixed_14 (by decide) ?_
  refine lv_iushr (v := (ushr (((x0 ^^^ x1) * 1103515245) + 12345) 15)) hx hb dX11_mixed_16 rfl ?_
  refine lv_ixor hx hb dX11_mixed_17 ?_
  exact q_iret C hr hlocks hK hP hD hS (Nat.le_of_ble_eq_true rfl) (Nat.le_of_ble_eq_true rfl) dX11_mixed_18 (by cases hB; rfl)
theorem cr_mixed {l : Launch} {dC : Nat → ClassId} {dI : Nat → Nat → Nat} {cB cI cJ cZ cS : ClassId} {r : Int32} {x0 : Int32} {x1 : Int32} (hB : r_mixed x0 x1 = some r) : CI l yX11_mixed wsX11_mixed ({ frames := 0, cells := 0, slots := 0, locals := 0 }) (dC, dI) (tysA cB cI cJ cZ cS) [] [.int x0, .int x1] (fun x _ => x = r) :=
  CI_of (cc := cX11_mixed) (maxL := 3) (ret := (some .int)) (by decide) rfl (Nat.le_of_ble_eq_true rfl) (br_mixed _ _ hB)
theorem LX11_lotOf_289 : Cond.fieldLink RX11 289 "GuessFerryModel" "lots" "I" ∈ wsX11_lotOf := (List.mem_cons_of_mem _ (List.mem_append_left _ (List.mem_append_left _ (List.mem_of_getElem? (i := 0) rfl))))
theorem inX11_lotOf_X11 : ∀ w ∈ u_ws RX11 TX11 58, w ∈ wsX11_lotOf := fun w h => (List.mem_cons_of_mem _ (List.mem_append_right _ h))
set_option maxHeartbeats 4000000 in
set_option maxRecDepth 100000 in
theorem br_lotOf {l : Launch} {dC : Nat → ClassId} {dI : Nat → Nat → Nat} {cB cI cJ cZ cS : ClassId} {h : Nat} {a : Nat → Nat} {as : List Value} {r : Int32} {s' : RS} (s : RS) (x1 : Int32) (x2 : Int32) (hB : r_lotOf s x1 x2 = some (r, s')) : BlkI l yX11_lotOf wsX11_lotOf ({ frames := 1, cells := 0, slots := 0, locals := 22 }) cX11_lotOf 3 (some .int) (dC, dI) (tysA cB cI cJ cZ cS) as 0 (mwS cB cI cJ cZ h a s) [(0, .ref h), (1, .int x1), (2, .int x2)] [] (fun x u => x = r ∧ u = (mwS cB cI cJ cZ h a s')) := by
  intro p e s0 m below meth c A E H locs ls hP hD hS hl
  obtain ⟨C, hr, hlocks, hA, hK, hN⟩ := id E
  obtain ⟨hx, hb, hml, hown, hts⟩ := id C
  unfold r_lotOf at hB
  refine lv_aload_n hx hb dX11_lotOf_0 rfl (lv_at hl 0 rfl) ?_
  refine q_get (v := .int (s.v 45)) C inX11_lotOf_X11 hK hP 0 rfl rfl 45 (by decide) rfl LX11_lotOf_289 rfl dX11_lotOf_1 ?_
  refine lv_sipush (v := 173) hx hb dX11_lotOf_4 (by decide) ?_
  obtain ⟨q_, hc, hB⟩ := bindP_inv hB
  refine q_goi0 (va_runS (As := [.int (s.v 45), .int 173]) (rest := []) C (cr_mixed hc _) (va_cwS 2 hts gX11_lotOf_X11_mixed rfl rfl rfl (by decide +kernel) ⟨Nat.le_of_ble_eq_true rfl, Nat.le_of_ble_eq_true rfl⟩) (q_pre0 hN hK) rfl rfl hl.1 rfl (lv_room (Nat.le_of_ble_eq_true rfl)) dX11_lotOf_7 ⟨Nat.le_of_ble_eq_true rfl, Nat.le_of_ble_eq_true rfl⟩) hP hD hS hA (fun r1 w1 H locs hw hP hS => ?_)
  subst hw
  refine lv_iload_n hx hb dX11_lotOf_10 rfl (lv_at hl 1 rfl) ?_
  obtain ⟨q_, hc, hB⟩ := bindP_inv hB
  refine q_goi0 (va_runS (As := [.int r1, .int x1]) (rest := []) C (cr_mixed hc _) (va_cwS 2 hts gX11_lotOf_X11_mixed rfl rfl rfl (by decide +kernel) ⟨Nat.le_of_ble_eq_true rfl, Nat.le_of_ble_eq_true rfl⟩) (q_pre0 hN hK) rfl rfl hl.1 rfl (lv_room (Nat.le_of_ble_eq_true rfl)) dX11_lotOf_11 ⟨Nat.le_of_ble_eq_true rfl, Nat.le_of_ble_eq_true rfl⟩) hP hD hS hA (fun r2 w1 H locs hw hP hS => ?_)
  subst hw
  refine lv_iconst (v := 1) hx hb dX11_lotOf_14 (by decide) ?_
  refine lv_iushr (v := (ushr r2 1)) hx hb dX11_lotOf_15 rfl ?_
  refine lv_iload_n hx hb dX11_lotOf_16 rfl (lv_at hl 2 rfl) ?_
  obtain ⟨z3, hB⟩ := guard_inv hB
  refine lv_irem hx hb dX11_lotOf_17 z3 ?_
  exact q_iret C hr hlocks hK hP hD hS (Nat.le_of_ble_eq_true rfl) (Nat.le_of_ble_eq_true rfl) dX11_lotOf_18 (by cases hB; exact ⟨rfl, rfl⟩)
theorem cr_lotOf {l : Launch} {dC : Nat → ClassId} {dI : Nat → Nat → Nat} {cB cI cJ cZ cS : ClassId} {h : Nat} {a : Nat → Nat} {r : Int32} {s' : RS} {s : RS} {x1 : Int32} {x2 : Int32} (hB : r_lotOf s x1 x2 = some (r, s')) : CI l yX11_lotOf wsX11_lotOf ({ frames := 1, cells := 0, slots := 0, locals := 22 }) (dC, dI) (tysA cB cI cJ cZ cS) (mwS cB cI cJ cZ h a s) [.ref h, .int x1, .int x2] (fun x u => x = r ∧ u = (mwS cB cI cJ cZ h a s')) :=
  CI_of (cc := cX11_lotOf) (maxL := 3) (ret := (some .int)) (by decide) rfl (Nat.le_of_ble_eq_true rfl) (br_lotOf _ _ _ hB)
theorem LX11_oddsAt_215 : Cond.fieldLink RX11 215 "GuessFerryModel" "live" "I" ∈ wsX11_oddsAt := (List.mem_cons_of_mem _ (List.mem_append_left _ (List.mem_of_getElem? (i := 1) rfl)))
theorem LX11_oddsAt_43 : Cond.fieldLink RX11 43 "GuessFerryModel" "oddsOf" "[I" ∈ wsX11_oddsAt := (List.mem_cons_of_mem _ (List.mem_append_left _ (List.mem_of_getElem? (i := 0) rfl)))
theorem inX11_oddsAt_X11 : ∀ w ∈ u_ws RX11 TX11 58, w ∈ wsX11_oddsAt := fun _ h => List.mem_cons_of_mem _ (List.mem_append_right _ h)
set_option maxHeartbeats 4000000 in
set_option maxRecDepth 100000 in
theorem br_oddsAt {l : Launch} {dC : Nat → ClassId} {dI : Nat → Nat → Nat} {cB cI cJ cZ cS : ClassId} {h : Nat} {a : Nat → Nat} {as : List Value} {r : Int32} {s' : RS} (s : RS) (x1 : Int32) (x2 : Int32) (hB : r_oddsAt s x1 x2 = some (r, s')) : BlkI l yX11_oddsAt wsX11_oddsAt ({ frames := 0, cells := 0, slots := 0, locals := 0 }) cX11_oddsAt 3 (some .int) (dC, dI) (tysA cB cI cJ cZ cS) as 0 (mwS cB cI cJ cZ h a s) [(0, .ref h), (1, .int x1), (2, .int x2)] [] (fun x u => x = r ∧ u = (mwS cB cI cJ cZ h a s')) := by
  intro p e s0 m below meth c A E H locs ls hP hD hS hl
  obtain ⟨C, hr, hlocks, hA, hK, hN⟩ := id E
  obtain ⟨hx, hb, hml, hown, hts⟩ := id C
  unfold r_oddsAt at hB
  refine lv_aload_n hx hb dX11_oddsAt_0 rfl (lv_at hl 0 rfl) ?_
  refine q_get (v := .ref (a 21)) C inX11_oddsAt_X11 hK hP 0 rfl rfl 21 (by decide) rfl LX11_oddsAt_43 rfl dX11_oddsAt_1 ?_
  refine lv_bipush (v := 30) hx hb dX11_oddsAt_4 (by decide) ?_
  refine lv_aload_n hx hb dX11_oddsAt_6 rfl (lv_at hl 0 rfl) ?_
  refine q_get (v := .int (s.v 18)) C inX11_oddsAt_X11 hK hP 0 rfl rfl 18 (by decide) rfl LX11_oddsAt_215 rfl dX11_oddsAt_7 ?_
  refine lv_imul hx hb dX11_oddsAt_10 ?_
  refine lv_bipush (v := 6) hx hb dX11_oddsAt_11 (by decide) ?_
  refine lv_iload_n hx hb dX11_oddsAt_13 rfl (lv_at hl 1 rfl) ?_
  refine lv_imul hx hb dX11_oddsAt_14 ?_
  refine lv_iadd hx hb dX11_oddsAt_15 ?_
  refine lv_iload_n hx hb dX11_oddsAt_16 rfl (lv_at hl 2 rfl) ?_
  refine lv_iadd hx hb dX11_oddsAt_17 ?_
  obtain ⟨g1, hB⟩ := guard_inv hB
  refine q_iald (x := (s.f 21 (Int32.toNatClampNeg (((30 * (s.v 18)) + (6 * x1)) + x2)))) C hK hP 9 1 rfl rfl (vpb_in g1) dX11_oddsAt_18 rfl ?_
  exact q_iret C hr hlocks hK hP hD hS (Nat.le_of_ble_eq_true rfl) (Nat.le_of_ble_eq_true rfl) dX11_oddsAt_19 (by cases hB; exact ⟨rfl, rfl⟩)
theorem cr_oddsAt {l : Launch} {dC : Nat → ClassId} {dI : Nat → Nat → Nat} {cB cI cJ cZ cS : ClassId} {h : Nat} {a : Nat → Nat} {r : Int32} {s' : RS} {s : RS} {x1 : Int32} {x2 : Int32} (hB : r_oddsAt s x1 x2 = some (r, s')) : CI l yX11_oddsAt wsX11_oddsAt ({ frames := 0, cells := 0, slots := 0, locals := 0 }) (dC, dI) (tysA cB cI cJ cZ cS) (mwS cB cI cJ cZ h a s) [.ref h, .int x1, .int x2] (fun x u => x = r ∧ u = (mwS cB cI cJ cZ h a s')) :=
  CI_of (cc := cX11_oddsAt) (maxL := 3) (ret := (some .int)) (by decide) rfl (Nat.le_of_ble_eq_true rfl) (br_oddsAt _ _ _ hB)
theorem LX11_thereAt_101 : Cond.fieldLink RX11 101 "GuessFerryModel" "row" "[I" ∈ wsX11_thereAt := (List.mem_cons_of_mem _ (List.mem_append_left _ (List.mem_append_left _ (List.mem_of_getElem? (i := 0) rfl))))
theorem inX11_thereAt_X11 : ∀ w ∈ u_ws RX11 TX11 58, w ∈ wsX11_thereAt := fun w h => (List.mem_cons_of_mem _ (List.mem_append_right _ h))
set_option maxHeartbeats 4000000 in
set_option maxRecDepth 100000 in
theorem br_thereAt_55 {l : Launch} {dC : Nat → ClassId} {dI : Nat → Nat → Nat} {cB cI cJ cZ cS : ClassId} {h : Nat} {a : Nat → Nat} {as : List Value} {r : Int32} {s' : RS} {k55 : RS → Int32 → Int32 → Int32 → Int32 → Option (Int32 × RS)} (hk55 : ∀ (s : RS) (x1 : Int32) (x2 : Int32) (x3 : Int32) (x4 : Int32), k55 s x1 x2 x3 x4 = some (r, s') → BlkI l yX11_thereAt wsX11_thereAt ({ frames := 2, cells := 0, slots := 0, locals := 44 }) cX11_thereAt 5 (some .int) (dC, dI) (tysA cB cI cJ cZ cS) as 55 (mwS cB cI cJ cZ h a s) [(0, .ref h), (1, .int x1), (2, .int x2), (3, .int x3), (4, .int x4)] [] (fun x u => x = r ∧ u = (mwS cB cI cJ cZ h a s'))) (s : RS) (x1 : Int32) (x2 : Int32) (x3 : Int32) (x4 : Int32) (hB : r_thereAt_55 k55 s x1 x2 x3 x4 = some (r, s')) : BlkI l yX11_thereAt wsX11_thereAt ({ frames := 2, cells := 0, slots := 0, locals := 44 }) cX11_thereAt 5 (some .int) (dC, dI) (tysA cB cI cJ cZ cS) as 55 (mwS cB cI cJ cZ h a s) [(0, .ref h), (1, .int x1), (2, .int x2), (3, .int x3), (4, .int x4)] [] (fun x u => x = r ∧ u = (mwS cB cI cJ cZ h a s')) := by
  intro p e s0 m below meth c A E H locs ls hP hD hS hl
  obtain ⟨C, hr, hlocks, hA, hK, hN⟩ := id E
  obtain ⟨hx, hb, hml, hown, hts⟩ := id C
  unfold r_thereAt_55 at hB
  refine lv_iload_n hx hb dX11_thereAt_55 rfl (lv_at hl 2 rfl) ?_
  refine lv_iload_n hx hb dX11_thereAt_56 rfl (lv_at hl 3 rfl) ?_
  refine lv_icmp_gt (tgt := 76) hx hb dX11_thereAt_57 (by decide) (fun c1 => ?_) (fun c1 => ?_)
  · have hB := if_p hB c1
    refine lv_iload hx hb dX11_thereAt_76 (lv_at hl 4 rfl) ?_
    exact q_iret C hr hlocks hK hP hD hS (Nat.le_of_ble_eq_true rfl) (Nat.le_of_ble_eq_true rfl) dX11_thereAt_78 (by cases hB; exact ⟨rfl, rfl⟩)
  · have hB := if_n hB c1
    refine lv_iinc (v := (x4 + 1)) (lv' := [(4, .int (x4 + 1)), (0, .ref h), (1, .int x1), (2, .int x2), (3, .int x3)]) hx hb dX11_thereAt_60 hl (k := 4) rfl (rfl) (by decide) rfl (fun ls hl => ?_)
    refine lv_iload_n hx hb dX11_thereAt_63 rfl (lv_at hl 3 rfl) ?_
    refine lv_aload_n hx hb dX11_thereAt_64 rfl (lv_at hl 1 rfl) ?_
    refine lv_iload_n hx hb dX11_thereAt_65 rfl (lv_at hl 2 rfl) ?_
    refine lv_iload hx hb dX11_thereAt_66 (lv_at hl 0 rfl) ?_
    obtain ⟨q_, s2, hc, hB⟩ := bindI_inv hB
    refine q_goiF (va_runV (As := [.int x1, .int (x4 + 1)]) (rest := [.int x2]) C (cr_oddsAt hc _) (cwV 2 hts gX11_thereAt_X11_oddsAt rfl rfl rfl (by decide +kernel) ⟨Nat.le_of_ble_eq_true rfl, Nat.le_of_ble_eq_true rfl⟩) (q_preV hK hP (ci := 11) (q0 := 0) rfl rfl rfl (q_preF hN hK hP hD)) rfl rfl hl.1 rfl (lv_room (Nat.le_of_ble_eq_true rfl)) dX11_thereAt_68 ⟨Nat.le_of_ble_eq_true rfl, Nat.le_of_ble_eq_true rfl⟩) hD hS hA (fun r3 w1 H locs hw hP hD hS => ?_)
    obtain ⟨hq_, hw⟩ := hw; subst hw; subst hq_
    refine lv_iadd hx hb dX11_thereAt_71 ?_
    refine lv_istore_n (lv' := [(2, .int (x2 + r3)), (4, .int (x4 + 1)), (0, .ref h), (1, .int x1), (3, .int x3)]) hx hb dX11_thereAt_72 rfl hl (by decide) rfl (fun ls hl => ?_)
    refine lv_goto (tgt := 55) hx hb dX11_thereAt_73 (by decide) ?_
    exact hk55 _ _ _ _ _ hB p e s0 m below meth c A E H locs ls hP hD hS (lv_sub hl [2, 3, 0, 4, 1] rfl)
theorem br_thereAt_55L {l : Launch} {dC : Nat → ClassId} {dI : Nat → Nat → Nat} {cB cI cJ cZ cS : ClassId} {h : Nat} {a : Nat → Nat} {as : List Value} {r : Int32} {s' : RS} : ∀ (n : Nat) (s : RS) (x1 : Int32) (x2 : Int32) (x3 : Int32) (x4 : Int32), r_thereAt_55L n s x1 x2 x3 x4 = some (r, s') → BlkI l yX11_thereAt wsX11_thereAt ({ frames := 2, cells := 0, slots := 0, locals := 44 }) cX11_thereAt 5 (some .int) (dC, dI) (tysA cB cI cJ cZ cS) as 55 (mwS cB cI cJ cZ h a s) [(0, .ref h), (1, .int x1), (2, .int x2), (3, .int x3), (4, .int x4)] [] (fun x u => x = r ∧ u = (mwS cB cI cJ cZ h a s')) := by
  intro n
  induction n with
  | zero => intro s x1 x2 x3 x4 hB; exact none_ne hB
  | succ n ih => intro s x1 x2 x3 x4 hB; exact br_thereAt_55 ih _ _ _ _ _ hB
set_option maxHeartbeats 4000000 in
set_option maxRecDepth 100000 in
theorem br_thereAt_4 {l : Launch} {dC : Nat → ClassId} {dI : Nat → Nat → Nat} {cB cI cJ cZ cS : ClassId} {h : Nat} {a : Nat → Nat} {as : List Value} {r : Int32} {s' : RS} {k4 : RS → Int32 → Int32 → Int32 → Option (Int32 × RS)} (hk4 : ∀ (s : RS) (x1 : Int32) (x2 : Int32) (x3 : Int32), k4 s x1 x2 x3 = some (r, s') → BlkI l yX11_thereAt wsX11_thereAt ({ frames := 2, cells := 0, slots := 0, locals := 44 }) cX11_thereAt 5 (some .int) (dC, dI) (tysA cB cI cJ cZ cS) as 4 (mwS cB cI cJ cZ h a s) [(0, .ref h), (1, .int x1), (2, .int x2), (3, .int x3)] [] (fun x u => x = r ∧ u = (mwS cB cI cJ cZ h a s'))) (s : RS) (x1 : Int32) (x2 : Int32) (x3 : Int32) (hB : r_thereAt_4 k4 s x1 x2 x3 = some (r, s')) : BlkI l yX11_thereAt wsX11_thereAt ({ frames := 2, cells := 0, slots := 0, locals := 44 }) cX11_thereAt 5 (some .int) (dC, dI) (tysA cB cI cJ cZ cS) as 4 (mwS cB cI cJ cZ h a s) [(0, .ref h), (1, .int x1), (2, .int x2), (3, .int x3)] [] (fun x u => x = r ∧ u = (mwS cB cI cJ cZ h a s')) := by
  intro p e s0 m below meth c A E H locs ls hP hD hS hl
  obtain ⟨C, hr, hlocks, hA, hK, hN⟩ := id E
  obtain ⟨hx, hb, hml, hown, hts⟩ := id C
  unfold r_thereAt_4 at hB
  refine lv_iload_n hx hb dX11_thereAt_4 rfl (lv_at hl 3 rfl) ?_
  refine lv_bipush (v := 6) hx hb dX11_thereAt_5 (by decide) ?_
  refine lv_icmp_ge (tgt := 25) hx hb dX11_thereAt_7 (by decide) (fun c1 => ?_) (fun c1 => ?_)
  · have hB := if_p hB c1
    refine lv_aload_n hx hb dX11_thereAt_25 rfl (lv_at hl 0 rfl) ?_
    refine lv_bipush (v := 8) hx hb dX11_thereAt_26 (by decide) ?_
    refine lv_aload_n hx hb dX11_thereAt_28 rfl (lv_at hl 0 rfl) ?_
    refine q_get (v := .ref (a 44)) C inX11_thereAt_X11 hK hP 0 rfl rfl 44 (by decide) rfl LX11_thereAt_101 rfl dX11_thereAt_29 ?_
    refine lv_bipush (v := 10) hx hb dX11_thereAt_32 (by decide) ?_
    refine lv_iload_n hx hb dX11_thereAt_34 rfl (lv_at hl 1 rfl) ?_
    refine lv_iadd hx hb dX11_thereAt_35 ?_
    obtain ⟨g2, hB⟩ := guard_inv hB
    refine q_iald (x := (s.f 44 (Int32.toNatClampNeg (10 + x1)))) C hK hP 28 1 rfl rfl (vpb_in g2) dX11_thereAt_36 rfl ?_
    refine lv_imul hx hb dX11_thereAt_37 ?_
    refine lv_iload_n hx hb dX11_thereAt_38 rfl (lv_at hl 1 rfl) ?_
    refine lv_iadd hx hb dX11_thereAt_39 ?_
    refine lv_iload_n hx hb dX11_thereAt_40 rfl (lv_at hl 2 rfl) ?_
    obtain ⟨q_, s3, hc, hB⟩ := bindI_inv hB
    refine q_goiF (va_runV (As := [.int ((8 * (s.f 44 (Int32.toNatClampNeg (10 + x1)))) + x1), .int x2]) (rest := []) C (cr_lotOf hc _) (cwV 2 hts gX11_thereAt_X11_lotOf rfl rfl rfl (by decide +kernel) ⟨Nat.le_of_ble_eq_true rfl, Nat.le_of_ble_eq_true rfl⟩) (q_preV hK hP (ci := 11) (q0 := 0) rfl rfl rfl (q_preF hN hK hP hD)) rfl rfl hl.1 rfl (lv_room (Nat.le_of_ble_eq_true rfl)) dX11_thereAt_41 ⟨Nat.le_of_ble_eq_true rfl, Nat.le_of_ble_eq_true rfl⟩) hD hS hA (fun r4 w1 H locs hw hP hD hS => ?_)
    obtain ⟨hq_, hw⟩ := hw; subst hw; subst hq_
    refine lv_istore_n (lv' := [(3, .int r4), (0, .ref h), (1, .int x1), (2, .int x2)]) hx hb dX11_thereAt_44 rfl hl (by decide) rfl (fun ls hl => ?_)
    refine lv_iconst (v := 0) hx hb dX11_thereAt_45 (by decide) ?_
    refine lv_istore (lv' := [(4, .int 0), (3, .int r4), (0, .ref h), (1, .int x1), (2, .int x2)]) hx hb dX11_thereAt_46 hl (by decide) rfl (fun ls hl => ?_)
    refine lv_aload_n hx hb dX11_thereAt_48 rfl (lv_at hl 2 rfl) ?_
    refine lv_iload_n hx hb dX11_thereAt_49 rfl (lv_at hl 3 rfl) ?_
    refine lv_iconst (v := 0) hx hb dX11_thereAt_50 (by decide) ?_
    obtain ⟨q_, s5, hc, hB⟩ := bindI_inv hB
    refine q_goiF (va_runV (As := [.int x1, .int 0]) (rest := []) C (cr_oddsAt hc _) (cwV 2 hts gX11_thereAt_X11_oddsAt rfl rfl rfl (by decide +kernel) ⟨Nat.le_of_ble_eq_true rfl, Nat.le_of_ble_eq_true rfl⟩) (q_preV hK hP (ci := 11) (q0 := 0) rfl rfl rfl (q_preF hN hK hP hD)) rfl rfl hl.1 rfl (lv_room (Nat.le_of_ble_eq_true rfl)) dX11_thereAt_51 ⟨Nat.le_of_ble_eq_true rfl, Nat.le_of_ble_eq_true rfl⟩) hD hS hA (fun r6 w1 H locs hw hP hD hS => ?_)
    obtain ⟨hq_, hw⟩ := hw; subst hw; subst hq_
    refine lv_istore_n (lv' := [(2, .int r6), (4, .int 0), (3, .int r4), (0, .ref h), (1, .int x1)]) hx hb dX11_thereAt_54 rfl hl (by decide) rfl (fun ls hl => ?_)
    exact br_thereAt_55L fu _ _ _ _ _ hB p e s0 m below meth c A E H locs ls hP hD hS (lv_sub hl [3, 4, 0, 2, 1] rfl)
  · have hB := if_n hB c1
    refine lv_iload_n hx hb dX11_thereAt_10 rfl (lv_at hl 2 rfl) ?_
    refine lv_aload_n hx hb dX11_thereAt_11 rfl (lv_at hl 0 rfl) ?_
    refine lv_iload_n hx hb dX11_thereAt_12 rfl (lv_at hl 1 rfl) ?_
    refine lv_iload_n hx hb dX11_thereAt_13 rfl (lv_at hl 3 rfl) ?_
    obtain ⟨q_, s7, hc, hB⟩ := bindI_inv hB
    refine q_goiF (va_runV (As := [.int x1, .int x3]) (rest := [.int x2]) C (cr_oddsAt hc _) (cwV 2 hts gX11_thereAt_X11_oddsAt rfl rfl rfl (by decide +kernel) ⟨Nat.le_of_ble_eq_true rfl, Nat.le_of_ble_eq_true rfl⟩) (q_preV hK hP (ci := 11) (q0 := 0) rfl rfl rfl (q_preF hN hK hP hD)) rfl rfl hl.1 rfl (lv_room (Nat.le_of_ble_eq_true rfl)) dX11_thereAt_14 ⟨Nat.le_of_ble_eq_true rfl, Nat.le_of_ble_eq_true rfl⟩) hD hS hA (fun r8 w1 H locs hw hP hD hS => ?_)
    obtain ⟨hq_, hw⟩ := hw; subst hw; subst hq_
    refine lv_iadd hx hb dX11_thereAt_17 ?_
    refine lv_istore_n (lv' := [(2, .int (x2 + r8)), (0, .ref h), (1, .int x1), (3, .int x3)]) hx hb dX11_thereAt_18 rfl hl (by decide) rfl (fun ls hl => ?_)
    refine lv_iinc (v := (x3 + 1)) (lv' := [(3, .int (x3 + 1)), (2, .int (x2 + r8)), (0, .ref h), (1, .int x1)]) hx hb dX11_thereAt_19 hl (k := 3) rfl (rfl) (by decide) rfl (fun ls hl => ?_)
    refine lv_goto (tgt := 4) hx hb dX11_thereAt_22 (by decide) ?_
    exact hk4 _ _ _ _ hB p e s0 m below meth c A E H locs ls hP hD hS (lv_sub hl [2, 3, 1, 0] rfl)
theorem br_thereAt_4L {l : Launch} {dC : Nat → ClassId} {dI : Nat → Nat → Nat} {cB cI cJ cZ cS : ClassId} {h : Nat} {a : Nat → Nat} {as : List Value} {r : Int32} {s' : RS} : ∀ (n : Nat) (s : RS) (x1 : Int32) (x2 : Int32) (x3 : Int32), r_thereAt_4L n s x1 x2 x3 = some (r, s') → BlkI l yX11_thereAt wsX11_thereAt ({ frames := 2, cells := 0, slots := 0, locals := 44 }) cX11_thereAt 5 (some .int) (dC, dI) (tysA cB cI cJ cZ cS) as 4 (mwS cB cI cJ cZ h a s) [(0, .ref h), (1, .int x1), (2, .int x2), (3, .int x3)] [] (fun x u => x = r ∧ u = (mwS cB cI cJ cZ h a s')) := by
  intro n
  induction n with
  | zero => intro s x1 x2 x3 hB; exact none_ne hB
  | succ n ih => intro s x1 x2 x3 hB; exact br_thereAt_4 ih _ _ _ _ hB
set_option maxHeartbeats 4000000 in
set_option maxRecDepth 100000 in
theorem br_thereAt {l : Launch} {dC : Nat → ClassId} {dI : Nat → Nat → Nat} {cB cI cJ cZ cS : ClassId} {h : Nat} {a : Nat → Nat} {as : List Value} {r : Int32} {s' : RS} (s : RS) (x1 : Int32) (hB : r_thereAt s x1 = some (r, s')) : BlkI l yX11_thereAt wsX11_thereAt ({ frames := 2, cells := 0, slots := 0, locals := 44 }) cX11_thereAt 5 (some .int) (dC, dI) (tysA cB cI cJ cZ cS) as 0 (mwS cB cI cJ cZ h a s) [(0, .ref h), (1, .int x1)] [] (fun x u => x = r ∧ u = (mwS cB cI cJ cZ h a s')) := by
  intro p e s0 m below meth c A E H locs ls hP hD hS hl
  obtain ⟨C, hr, hlocks, hA, hK, hN⟩ := id E
  obtain ⟨hx, hb, hml, hown, hts⟩ := id C
  unfold r_thereAt at hB
  refine lv_iconst (v := 0) hx hb dX11_thereAt_0 (by decide) ?_
  refine lv_istore_n (lv' := [(2, .int 0), (0, .ref h), (1, .int x1)]) hx hb dX11_thereAt_1 rfl hl (by decide) rfl (fun ls hl => ?_)
  refine lv_iconst (v := 0) hx hb dX11_thereAt_2 (by decide) ?_
  refine lv_istore_n (lv' := [(3, .int 0), (2, .int 0), (0, .ref h), (1, .int x1)]) hx hb dX11_thereAt_3 rfl hl (by decide) rfl (fun ls hl => ?_)
  exact br_thereAt_4L fu _ _ _ _ hB p e s0 m below meth c A E H locs ls hP hD hS (lv_sub hl [2, 3, 1, 0] rfl)
theorem cr_thereAt {l : Launch} {dC : Nat → ClassId} {dI : Nat → Nat → Nat} {cB cI cJ cZ cS : ClassId} {h : Nat} {a : Nat → Nat} {r : Int32} {s' : RS} {s : RS} {x1 : Int32} (hB : r_thereAt s x1 = some (r, s')) : CI l yX11_thereAt wsX11_thereAt ({ frames := 2, cells := 0, slots := 0, locals := 44 }) (dC, dI) (tysA cB cI cJ cZ cS) (mwS cB cI cJ cZ h a s) [.ref h, .int x1] (fun x u => x = r ∧ u = (mwS cB cI cJ cZ h a s')) :=
  CI_of (cc := cX11_thereAt) (maxL := 5) (ret := (some .int)) (by decide) rfl (Nat.le_of_ble_eq_true rfl) (br_thereAt _ _ hB)
theorem LX11_thereNumber_104 : Cond.fieldLink RX11 104 "GuessFerryModel" "sixes" "[I" ∈ wsX11_thereNumber := (List.mem_cons_of_mem _ (List.mem_append_left _ (List.mem_append_left _ (List.mem_of_getElem? (i := 2) rfl))))
theorem LX11_thereNumber_215 : Cond.fieldLink RX11 215 "GuessFerryModel" "live" "I" ∈ wsX11_thereNumber := (List.mem_cons_of_mem _ (List.mem_append_left _ (List.mem_append_left _ (List.mem_of_getElem? (i := 1) rfl))))
theorem LX11_thereNumber_40 : Cond.fieldLink RX11 40 "GuessFerryModel" "waves" "[I" ∈ wsX11_thereNumber := (List.mem_cons_of_mem _ (List.mem_append_left _ (List.mem_append_left _ (List.mem_of_getElem? (i := 0) rfl))))
theorem inX11_thereNumber_X11 : ∀ w ∈ u_ws RX11 TX11 58, w ∈ wsX11_thereNumber := fun w h => (List.mem_cons_of_mem _ (List.mem_append_right _ h))
set_option maxHeartbeats 4000000 in
set_option maxRecDepth 100000 in
theorem br_thereNumber_4 {l : Launch} {dC : Nat → ClassId} {dI : Nat → Nat → Nat} {cB cI cJ cZ cS : ClassId} {h : Nat} {a : Nat → Nat} {as : List Value} {r : Int32} {s' : RS} {k4 : RS → Int32 → Int32 → Option (Int32 × RS)} (hk4 : ∀ (s : RS) (x1 : Int32) (x2 : Int32), k4 s x1 x2 = some (r, s') → BlkI l yX11_thereNumber wsX11_thereNumber ({ frames := 3, cells := 0, slots := 0, locals := 68 }) cX11_thereNumber 3 (some .int) (dC, dI) (tysA cB cI cJ cZ cS) as 4 (mwS cB cI cJ cZ h a s) [(0, .ref h), (1, .int x1), (2, .int x2)] [] (fun x u => x = r ∧ u = (mwS cB cI cJ cZ h a s'))) (s : RS) (x1 : Int32) (x2 : Int32) (hB : r_thereNumber_4 k4 s x1 x2 = some (r, s')) : BlkI l yX11_thereNumber wsX11_thereNumber ({ frames := 3, cells := 0, slots := 0, locals := 68 }) cX11_thereNumber 3 (some .int) (dC, dI) (tysA cB cI cJ cZ cS) as 4 (mwS cB cI cJ cZ h a s) [(0, .ref h), (1, .int x1), (2, .int x2)] [] (fun x u => x = r ∧ u = (mwS cB cI cJ cZ h a s')) := by
  intro p e s0 m below meth c A E H locs ls hP hD hS hl
  obtain ⟨C, hr, hlocks, hA, hK, hN⟩ := id E
  obtain ⟨hx, hb, hml, hown, hts⟩ := id C
  unfold r_thereNumber_4 at hB
  refine lv_iload_n hx hb dX11_thereNumber_4 rfl (lv_at hl 2 rfl) ?_
  refine lv_aload_n hx hb dX11_thereNumber_5 rfl (lv_at hl 0 rfl) ?_
  refine q_get (v := .ref (a 20)) C inX11_thereNumber_X11 hK hP 0 rfl rfl 20 (by decide) rfl LX11_thereNumber_40 rfl dX11_thereNumber_6 ?_
  refine lv_aload_n hx hb dX11_thereNumber_9 rfl (lv_at hl 0 rfl) ?_
  refine q_get (v := .int (s.v 18)) C inX11_thereNumber_X11 hK hP 0 rfl rfl 18 (by decide) rfl LX11_thereNumber_215 rfl dX11_thereNumber_10 ?_
  obtain ⟨g1, hB⟩ := guard_inv hB
  refine q_iald (x := (s.f 20 (Int32.toNatClampNeg (s.v 18)))) C hK hP 8 1 rfl rfl (vpb_in g1) dX11_thereNumber_13 rfl ?_
  refine lv_icmp_ge (tgt := 38) hx hb dX11_thereNumber_14 (by decide) (fun c2 => ?_) (fun c2 => ?_)
  · have hB := if_p hB c2
    refine lv_iload_n hx hb dX11_thereNumber_38 rfl (lv_at hl 1 rfl) ?_
    exact q_iret C hr hlocks hK hP hD hS (Nat.le_of_ble_eq_true rfl) (Nat.le_of_ble_eq_true rfl) dX11_thereNumber_39 (by cases hB; exact ⟨rfl, rfl⟩)
  · have hB := if_n hB c2
    refine lv_iload_n hx hb dX11_thereNumber_17 rfl (lv_at hl 1 rfl) ?_
    refine lv_aload_n hx hb dX11_thereNumber_18 rfl (lv_at hl 0 rfl) ?_
    refine q_get (v := .ref (a 46)) C inX11_thereNumber_X11 hK hP 0 rfl rfl 46 (by decide) rfl LX11_thereNumber_104 rfl dX11_thereNumber_19 ?_
    refine lv_iload_n hx hb dX11_thereNumber_22 rfl (lv_at hl 2 rfl) ?_
    obtain ⟨g3, hB⟩ := guard_inv hB
    refine q_iald (x := (s.f 46 (Int32.toNatClampNeg x2))) C hK hP 29 1 rfl rfl (vpb_in g3) dX11_thereNumber_23 rfl ?_
    refine lv_aload_n hx hb dX11_thereNumber_24 rfl (lv_at hl 0 rfl) ?_
    refine lv_iload_n hx hb dX11_thereNumber_25 rfl (lv_at hl 2 rfl) ?_
    obtain ⟨q_, s4, hc, hB⟩ := bindI_inv hB
    refine q_goiF (va_runV (As := [.int x2]) (rest := [.int (s.f 46 (Int32.toNatClampNeg x2)), .int x1]) C (cr_thereAt hc _) (cwV 1 hts gX11_thereNumber_X11_thereAt rfl rfl rfl (by decide +kernel) ⟨Nat.le_of_ble_eq_true rfl, Nat.le_of_ble_eq_true rfl⟩) (q_preV hK hP (ci := 11) (q0 := 0) rfl rfl rfl (q_preF hN hK hP hD)) rfl rfl hl.1 rfl (lv_room (Nat.le_of_ble_eq_true rfl)) dX11_thereNumber_26 ⟨Nat.le_of_ble_eq_true rfl, Nat.le_of_ble_eq_true rfl⟩) hD hS hA (fun r5 w1 H locs hw hP hD hS => ?_)
    obtain ⟨hq_, hw⟩ := hw; subst hw; subst hq_
    refine lv_imul hx hb dX11_thereNumber_29 ?_
    refine lv_iadd hx hb dX11_thereNumber_30 ?_
    refine lv_istore_n (lv' := [(1, .int (x1 + ((s.f 46 (Int32.toNatClampNeg x2)) * r5))), (0, .ref h), (2, .int x2)]) hx hb dX11_thereNumber_31 rfl hl (by decide) rfl (fun ls hl => ?_)
    refine lv_iinc (v := (x2 + 1)) (lv' := [(2, .int (x2 + 1)), (1, .int (x1 + ((s.f 46 (Int32.toNatClampNeg x2)) * r5))), (0, .ref h)]) hx hb dX11_thereNumber_32 hl (k := 2) rfl (rfl) (by decide) rfl (fun ls hl => ?_)
    refine lv_goto (tgt := 4) hx hb dX11_thereNumber_35 (by decide) ?_
    exact hk4 _ _ _ hB p e s0 m below meth c A E H locs ls hP hD hS (lv_sub hl [2, 1, 0] rfl)
theorem br_thereNumber_4L {l : Launch} {dC : Nat → ClassId} {dI : Nat → Nat → Nat} {cB cI cJ cZ cS : ClassId} {h : Nat} {a : Nat → Nat} {as : List Value} {r : Int32} {s' : RS} : ∀ (n : Nat) (s : RS) (x1 : Int32) (x2 : Int32), r_thereNumber_4L n s x1 x2 = some (r, s') → BlkI l yX11_thereNumber wsX11_thereNumber ({ frames := 3, cells := 0, slots := 0, locals := 68 }) cX11_thereNumber 3 (some .int) (dC, dI) (tysA cB cI cJ cZ cS) as 4 (mwS cB cI cJ cZ h a s) [(0, .ref h), (1, .int x1), (2, .int x2)] [] (fun x u => x = r ∧ u = (mwS cB cI cJ cZ h a s')) := by
  intro n
  induction n with
  | zero => intro s x1 x2 hB; exact none_ne hB
  | succ n ih => intro s x1 x2 hB; exact br_thereNumber_4 ih _ _ _ hB
set_option maxHeartbeats 4000000 in
set_option maxRecDepth 100000 in
theorem br_thereNumber {l : Launch} {dC : Nat → ClassId} {dI : Nat → Nat → Nat} {cB cI cJ cZ cS : ClassId} {h : Nat} {a : Nat → Nat} {as : List Value} {r : Int32} {s' : RS} (s : RS) (hB : r_thereNumber s = some (r, s')) : BlkI l yX11_thereNumber wsX11_thereNumber ({ frames := 3, cells := 0, slots := 0, locals := 68 }) cX11_thereNumber 3 (some .int) (dC, dI) (tysA cB cI cJ cZ cS) as 0 (mwS cB cI cJ cZ h a s) [(0, .ref h)] [] (fun x u => x = r ∧ u = (mwS cB cI cJ cZ h a s')) := by
  intro p e s0 m below meth c A E H locs ls hP hD hS hl
  obtain ⟨C, hr, hlocks, hA, hK, hN⟩ := id E
  obtain ⟨hx, hb, hml, hown, hts⟩ := id C
  unfold r_thereNumber at hB
  refine lv_iconst (v := 0) hx hb dX11_thereNumber_0 (by decide) ?_
  refine lv_istore_n (lv' := [(1, .int 0), (0, .ref h)]) hx hb dX11_thereNumber_1 rfl hl (by decide) rfl (fun ls hl => ?_)
  refine lv_iconst (v := 0) hx hb dX11_thereNumber_2 (by decide) ?_
  refine lv_istore_n (lv' := [(2, .int 0), (1, .int 0), (0, .ref h)]) hx hb dX11_thereNumber_3 rfl hl (by decide) rfl (fun ls hl => ?_)
  exact br_thereNumber_4L fu _ _ _ hB p e s0 m below meth c A E H locs ls hP hD hS (lv_sub hl [2, 1, 0] rfl)
theorem cr_thereNumber {l : Launch} {dC : Nat → ClassId} {dI : Nat → Nat → Nat} {cB cI cJ cZ cS : ClassId} {h : Nat} {a : Nat → Nat} {r : Int32} {s' : RS} {s : RS} (hB : r_thereNumber s = some (r, s')) : CI l yX11_thereNumber wsX11_thereNumber ({ frames := 3, cells := 0, slots := 0, locals := 68 }) (dC, dI) (tysA cB cI cJ cZ cS) (mwS cB cI cJ cZ h a s) [.ref h] (fun x u => x = r ∧ u = (mwS cB cI cJ cZ h a s')) :=
  CI_of (cc := cX11_thereNumber) (maxL := 3) (ret := (some .int)) (by decide) rfl (Nat.le_of_ble_eq_true rfl) (br_thereNumber _ hB)
theorem LX11_mayAt_101 : Cond.fieldLink RX11 101 "GuessFerryModel" "row" "[I" ∈ wsX11_mayAt := (List.mem_cons_of_mem _ (List.mem_append_left _ (List.mem_append_left _ (List.mem_of_getElem? (i := 0) rfl))))
theorem inX11_mayAt_X11 : ∀ w ∈ u_ws RX11 TX11 58, w ∈ wsX11_mayAt := fun w h => (List.mem_cons_of_mem _ (List.mem_append_right _ h))
set_option maxHeartbeats 4000000 in
set_option maxRecDepth 100000 in
theorem br_mayAt_60 {l : Launch} {dC : Nat → ClassId} {dI : Nat → Nat → Nat} {cB cI cJ cZ cS : ClassId} {h : Nat} {a : Nat → Nat} {as : List Value} {r : Int32} {s' : RS} {k26 : RS → Int32 → Int32 → Int32 → Option (Int32 × RS)} (hk26 : ∀ (s : RS) (x1 : Int32) (x2 : Int32) (x3 : Int32), k26 s x1 x2 x3 = some (r, s') → BlkI l yX11_mayAt wsX11_mayAt ({ frames := 1, cells := 0, slots := 0, locals := 22 }) cX11_mayAt 4 (some .int) (dC, dI) (tysA cB cI cJ cZ cS) as 26 (mwS cB cI cJ cZ h a s) [(0, .ref h), (1, .int x1), (2, .int x2), (3, .int x3)] [] (fun x u => x = r ∧ u = (mwS cB cI cJ cZ h a s'))) (s : RS) (x1 : Int32) (x2 : Int32) (x3 : Int32) (hB : r_mayAt_60 k26 s x1 x2 x3 = some (r, s')) : BlkI l yX11_mayAt wsX11_mayAt ({ frames := 1, cells := 0, slots := 0, locals := 22 }) cX11_mayAt 4 (some .int) (dC, dI) (tysA cB cI cJ cZ cS) as 60 (mwS cB cI cJ cZ h a s) [(0, .ref h), (1, .int x1), (2, .int x2), (3, .int x3)] [] (fun x u => x = r ∧ u = (mwS cB cI cJ cZ h a s')) := by
  intro p e s0 m below meth c A E H locs ls hP hD hS hl
  obtain ⟨C, hr, hlocks, hA, hK, hN⟩ := id E
  obtain ⟨hx, hb, hml, hown, hts⟩ := id C
  unfold r_mayAt_60 at hB
  refine lv_iinc (v := (x3 + 1)) (lv' := [(3, .int (x3 + 1)), (0, .ref h), (1, .int x1), (2, .int x2)]) hx hb dX11_mayAt_60 hl (k := 3) rfl (rfl) (by decide) rfl (fun ls hl => ?_)
  refine lv_goto (tgt := 26) hx hb dX11_mayAt_63 (by decide) ?_
  exact hk26 _ _ _ _ hB p e s0 m below meth c A E H locs ls hP hD hS (lv_sub hl [1, 2, 3, 0] rfl)
set_option maxHeartbeats 4000000 in
set_option maxRecDepth 100000 in
theorem br_mayAt_26 {l : Launch} {dC : Nat → ClassId} {dI : Nat → Nat → Nat} {cB cI cJ cZ cS : ClassId} {h : Nat} {a : Nat → Nat} {as : List Value} {r : Int32} {s' : RS} {k26 : RS → Int32 → Int32 → Int32 → Option (Int32 × RS)} (hk26 : ∀ (s : RS) (x1 : Int32) (x2 : Int32) (x3 : Int32), k26 s x1 x2 x3 = some (r, s') → BlkI l yX11_mayAt wsX11_mayAt ({ frames := 1, cells := 0, slots := 0, locals := 22 }) cX11_mayAt 4 (some .int) (dC, dI) (tysA cB cI cJ cZ cS) as 26 (mwS cB cI cJ cZ h a s) [(0, .ref h), (1, .int x1), (2, .int x2), (3, .int x3)] [] (fun x u => x = r ∧ u = (mwS cB cI cJ cZ h a s'))) (s : RS) (x1 : Int32) (x2 : Int32) (x3 : Int32) (hB : r_mayAt_26 k26 s x1 x2 x3 = some (r, s')) : BlkI l yX11_mayAt wsX11_mayAt ({ frames := 1, cells := 0, slots := 0, locals := 22 }) cX11_mayAt 4 (some .int) (dC, dI) (tysA cB cI cJ cZ cS) as 26 (mwS cB cI cJ cZ h a s) [(0, .ref h), (1, .int x1), (2, .int x2), (3, .int x3)] [] (fun x u => x = r ∧ u = (mwS cB cI cJ cZ h a s')) := by
  intro p e s0 m below meth c A E H locs ls hP hD hS hl
  obtain ⟨C, hr, hlocks, hA, hK, hN⟩ := id E
  obtain ⟨hx, hb, hml, hown, hts⟩ := id C
  unfold r_mayAt_26 at hB
  refine lv_iload_n hx hb dX11_mayAt_26 rfl (lv_at hl 3 rfl) ?_
  refine lv_bipush (v := 6) hx hb dX11_mayAt_27 (by decide) ?_
  refine lv_icmp_ge (tgt := 66) hx hb dX11_mayAt_29 (by decide) (fun c1 => ?_) (fun c1 => ?_)
  · have hB := if_p hB c1
    refine lv_iload_n hx hb dX11_mayAt_66 rfl (lv_at hl 2 rfl) ?_
    exact q_iret C hr hlocks hK hP hD hS (Nat.le_of_ble_eq_true rfl) (Nat.le_of_ble_eq_true rfl) dX11_mayAt_67 (by cases hB; exact ⟨rfl, rfl⟩)
  · have hB := if_n hB c1
    refine lv_aload_n hx hb dX11_mayAt_32 rfl (lv_at hl 0 rfl) ?_
    refine lv_iload_n hx hb dX11_mayAt_33 rfl (lv_at hl 1 rfl) ?_
    refine lv_iload_n hx hb dX11_mayAt_34 rfl (lv_at hl 3 rfl) ?_
    obtain ⟨q_, s2, hc, hB⟩ := bindI_inv hB
    refine q_goiF (va_runV (As := [.int x1, .int x3]) (rest := []) C (cr_oddsAt hc _) (cwV 2 hts gX11_mayAt_X11_oddsAt rfl rfl rfl (by decide +kernel) ⟨Nat.le_of_ble_eq_true rfl, Nat.le_of_ble_eq_true rfl⟩) (q_preV hK hP (ci := 11) (q0 := 0) rfl rfl rfl (q_preF hN hK hP hD)) rfl rfl hl.1 rfl (lv_room (Nat.le_of_ble_eq_true rfl)) dX11_mayAt_35 ⟨Nat.le_of_ble_eq_true rfl, Nat.le_of_ble_eq_true rfl⟩) hD hS hA (fun r3 w1 H locs hw hP hD hS => ?_)
    obtain ⟨hq_, hw⟩ := hw; subst hw; subst hq_
    refine lv_if_le (tgt := 60) hx hb dX11_mayAt_38 (by decide) (fun c4 => ?_) (fun c4 => ?_)
    · have hB := if_p hB c4
      exact br_mayAt_60 (hk26) _ _ _ _ hB p e s0 m below meth c A E H locs ls hP hD hS (lv_sub hl [0, 1, 2, 3] rfl)
    · have hB := if_n hB c4
      refine lv_aload_n hx hb dX11_mayAt_41 rfl (lv_at hl 0 rfl) ?_
      refine q_get (v := .ref (a 44)) C inX11_mayAt_X11 hK hP 0 rfl rfl 44 (by decide) rfl LX11_mayAt_101 rfl dX11_mayAt_42 ?_
      refine lv_iload_n hx hb dX11_mayAt_45 rfl (lv_at hl 1 rfl) ?_
      obtain ⟨g5, hB⟩ := guard_inv hB
      refine q_iald (x := (s2.f 44 (Int32.toNatClampNeg x1))) C hK hP 28 1 rfl rfl (vpb_in g5) dX11_mayAt_46 rfl ?_
      refine lv_iload_n hx hb dX11_mayAt_47 rfl (lv_at hl 3 rfl) ?_
      refine lv_ishr hx hb dX11_mayAt_48 ?_
      refine lv_iconst (v := 1) hx hb dX11_mayAt_49 (by decide) ?_
      refine lv_iand hx hb dX11_mayAt_50 ?_
      refine lv_if_ne (tgt := 60) hx hb dX11_mayAt_51 (by decide) (fun c6 => ?_) (fun c6 => ?_)
      · have hB := if_n hB c6
        exact br_mayAt_60 (hk26) _ _ _ _ hB p e s0 m below meth c A E H locs ls hP hD hS (lv_sub hl [0, 1, 2, 3] rfl)
      · have hB := if_p hB c6
        refine lv_iload_n hx hb dX11_mayAt_54 rfl (lv_at hl 2 rfl) ?_
        refine lv_iconst (v := 1) hx hb dX11_mayAt_55 (by decide) ?_
        refine lv_iload_n hx hb dX11_mayAt_56 rfl (lv_at hl 3 rfl) ?_
        refine lv_ishl hx hb dX11_mayAt_57 ?_
        refine lv_ior hx hb dX11_mayAt_58 ?_
        refine lv_istore_n (lv' := [(2, .int (x2 ||| (1 <<< (x3 &&& 31)))), (0, .ref h), (1, .int x1), (3, .int x3)]) hx hb dX11_mayAt_59 rfl hl (by decide) rfl (fun ls hl => ?_)
        exact br_mayAt_60 (hk26) _ _ _ _ hB p e s0 m below meth c A E H locs ls hP hD hS (lv_sub hl [1, 2, 0, 3] rfl)
theorem br_mayAt_26L {l : Launch} {dC : Nat → ClassId} {dI : Nat → Nat → Nat} {cB cI cJ cZ cS : ClassId} {h : Nat} {a : Nat → Nat} {as : List Value} {r : Int32} {s' : RS} : ∀ (n : Nat) (s : RS) (x1 : Int32) (x2 : Int32) (x3 : Int32), r_mayAt_26L n s x1 x2 x3 = some (r, s') → BlkI l yX11_mayAt wsX11_mayAt ({ frames := 1, cells := 0, slots := 0, locals := 22 }) cX11_mayAt 4 (some .int) (dC, dI) (tysA cB cI cJ cZ cS) as 26 (mwS cB cI cJ cZ h a s) [(0, .ref h), (1, .int x1), (2, .int x2), (3, .int x3)] [] (fun x u => x = r ∧ u = (mwS cB cI cJ cZ h a s')) := by
  intro n
  induction n with
  | zero => intro s x1 x2 x3 hB; exact none_ne hB
  | succ n ih => intro s x1 x2 x3 hB; exact br_mayAt_26 ih _ _ _ _ hB
set_option maxHeartbeats 4000000 in
set_option maxRecDepth 100000 in
theorem br_mayAt {l : Launch} {dC : Nat → ClassId} {dI : Nat → Nat → Nat} {cB cI cJ cZ cS : ClassId} {h : Nat} {a : Nat → Nat} {as : List Value} {r : Int32} {s' : RS} (s : RS) (x1 : Int32) (hB : r_mayAt s x1 = some (r, s')) : BlkI l yX11_mayAt wsX11_mayAt ({ frames := 1, cells := 0, slots := 0, locals := 22 }) cX11_mayAt 4 (some .int) (dC, dI) (tysA cB cI cJ cZ cS) as 0 (mwS cB cI cJ cZ h a s) [(0, .ref h), (1, .int x1)] [] (fun x u => x = r ∧ u = (mwS cB cI cJ cZ h a s')) := by
  intro p e s0 m below meth c A E H locs ls hP hD hS hl
  obtain ⟨C, hr, hlocks, hA, hK, hN⟩ := id E
  obtain ⟨hx, hb, hml, hown, hts⟩ := id C
  unfold r_mayAt at hB
  refine lv_aload_n hx hb dX11_mayAt_0 rfl (lv_at hl 0 rfl) ?_
  refine q_get (v := .ref (a 44)) C inX11_mayAt_X11 hK hP 0 rfl rfl 44 (by decide) rfl LX11_mayAt_101 rfl dX11_mayAt_1 ?_
  refine lv_iconst (v := 5) hx hb dX11_mayAt_4 (by decide) ?_
  refine lv_iload_n hx hb dX11_mayAt_5 rfl (lv_at hl 1 rfl) ?_
  refine lv_iadd hx hb dX11_mayAt_6 ?_
  obtain ⟨g1, hB⟩ := guard_inv hB
  refine q_iald (x := (s.f 44 (Int32.toNatClampNeg (5 + x1)))) C hK hP 28 1 rfl rfl (vpb_in g1) dX11_mayAt_7 rfl ?_
  refine lv_if_lt (tgt := 22) hx hb dX11_mayAt_8 (by decide) (fun c2 => ?_) (fun c2 => ?_)
  · have hB := if_p hB c2
    refine lv_iconst (v := 0) hx hb dX11_mayAt_22 (by decide) ?_
    refine lv_istore_n (lv' := [(2, .int 0), (0, .ref h), (1, .int x1)]) hx hb dX11_mayAt_23 rfl hl (by decide) rfl (fun ls hl => ?_)
    refine lv_iconst (v := 0) hx hb dX11_mayAt_24 (by decide) ?_
    refine lv_istore_n (lv' := [(3, .int 0), (2, .int 0), (0, .ref h), (1, .int x1)]) hx hb dX11_mayAt_25 rfl hl (by decide) rfl (fun ls hl => ?_)
    exact br_mayAt_26L fu _ _ _ _ hB p e s0 m below meth c A E H locs ls hP hD hS (lv_sub hl [2, 3, 1, 0] rfl)
  · have hB := if_n hB c2
    refine lv_iconst (v := 1) hx hb dX11_mayAt_11 (by decide) ?_
    refine lv_aload_n hx hb dX11_mayAt_12 rfl (lv_at hl 0 rfl) ?_
    refine q_get (v := .ref (a 44)) C inX11_mayAt_X11 hK hP 0 rfl rfl 44 (by decide) rfl LX11_mayAt_101 rfl dX11_mayAt_13 ?_
    refine lv_iconst (v := 5) hx hb dX11_mayAt_16 (by decide) ?_
    refine lv_iload_n hx hb dX11_mayAt_17 rfl (lv_at hl 1 rfl) ?_
    refine lv_iadd hx hb dX11_mayAt_18 ?_
    obtain ⟨g3, hB⟩ := guard_inv hB
    refine q_iald (x := (s.f 44 (Int32.toNatClampNeg (5 + x1)))) C hK hP 28 1 rfl rfl (vpb_in g3) dX11_mayAt_19 rfl ?_
    refine lv_ishl hx hb dX11_mayAt_20 ?_
    exact q_iret C hr hlocks hK hP hD hS (Nat.le_of_ble_eq_true rfl) (Nat.le_of_ble_eq_true rfl) dX11_mayAt_21 (by cases hB; exact ⟨rfl, rfl⟩)
theorem cr_mayAt {l : Launch} {dC : Nat → ClassId} {dI : Nat → Nat → Nat} {cB cI cJ cZ cS : ClassId} {h : Nat} {a : Nat → Nat} {r : Int32} {s' : RS} {s : RS} {x1 : Int32} (hB : r_mayAt s x1 = some (r, s')) : CI l yX11_mayAt wsX11_mayAt ({ frames := 1, cells := 0, slots := 0, locals := 22 }) (dC, dI) (tysA cB cI cJ cZ cS) (mwS cB cI cJ cZ h a s) [.ref h, .int x1] (fun x u => x = r ∧ u = (mwS cB cI cJ cZ h a s')) :=
  CI_of (cc := cX11_mayAt) (maxL := 4) (ret := (some .int)) (by decide) rfl (Nat.le_of_ble_eq_true rfl) (br_mayAt _ _ hB)
theorem LX11_lawTells_215 : Cond.fieldLink RX11 215 "GuessFerryModel" "live" "I" ∈ wsX11_lawTells := (List.mem_cons_of_mem _ (List.mem_append_left _ (List.mem_append_left _ (List.mem_of_getElem? (i := 0) rfl))))
theorem LX11_lawTells_277 : Cond.fieldLink RX11 277 "GuessFerryModel" "isBroken" "Z" ∈ wsX11_lawTells := (List.mem_cons_of_mem _ (List.mem_append_left _ (List.mem_append_left _ (List.mem_of_getElem? (i := 3) rfl))))
theorem LX11_lawTells_61 : Cond.fieldLink RX11 61 "GuessFerryModel" "lawFirst" "[I" ∈ wsX11_lawTells := (List.mem_cons_of_mem _ (List.mem_append_left _ (List.mem_append_left _ (List.mem_of_getElem? (i := 1) rfl))))
theorem LX11_lawTells_64 : Cond.fieldLink RX11 64 "GuessFerryModel" "lawLast" "[I" ∈ wsX11_lawTells := (List.mem_cons_of_mem _ (List.mem_append_left _ (List.mem_append_left _ (List.mem_of_getElem? (i := 2) rfl))))
theorem LX11_lawTells_67 : Cond.fieldLink RX11 67 "GuessFerryModel" "hasTest" "[Z" ∈ wsX11_lawTells := (List.mem_cons_of_mem _ (List.mem_append_left _ (List.mem_append_left _ (List.mem_of_getElem? (i := 4) rfl))))
theorem LX11_lawTells_71 : Cond.fieldLink RX11 71 "GuessFerryModel" "testFrom" "[I" ∈ wsX11_lawTells := (List.mem_cons_of_mem _ (List.mem_append_left _ (List.mem_append_left _ (List.mem_of_getElem? (i := 5) rfl))))
theorem LX11_lawTells_74 : Cond.fieldLink RX11 74 "GuessFerryModel" "testMid" "[I" ∈ wsX11_lawTells := (List.mem_cons_of_mem _ (List.mem_append_left _ (List.mem_append_left _ (List.mem_of_getElem? (i := 6) rfl))))
theorem LX11_lawTells_77 : Cond.fieldLink RX11 77 "GuessFerryModel" "testTo" "[I" ∈ wsX11_lawTells := (List.mem_cons_of_mem _ (List.mem_append_left _ (List.mem_append_left _ (List.mem_of_getElem? (i := 7) rfl))))
theorem LX11_lawTells_80 : Cond.fieldLink RX11 80 "GuessFerryModel" "termTo" "[I" ∈ wsX11_lawTells := (List.mem_cons_of_mem _ (List.mem_append_left _ (List.mem_append_left _ (List.mem_of_getElem? (i := 8) rfl))))
theorem inX11_lawTells_X11 : ∀ w ∈ u_ws RX11 TX11 58, w ∈ wsX11_lawTells := fun w h => (List.mem_cons_of_mem _ (List.mem_append_right _ h))
set_option maxHeartbeats 4000000 in
set_option maxRecDepth 100000 in
theorem br_lawTells_119 {l : Launch} {dC : Nat → ClassId} {dI : Nat → Nat → Nat} {cB cI cJ cZ cS : ClassId} {h : Nat} {a : Nat → Nat} {as : List Value} {r : Int32} {s' : RS} (s : RS) (x4 : Int32) (hB : r_lawTells_119 s x4 = some (r, s')) : BlkI l yX11_lawTells wsX11_lawTells ({ frames := 1, cells := 0, slots := 0, locals := 27 }) cX11_lawTells 7 (some .int) (dC, dI) (tysA cB cI cJ cZ cS) as 119 (mwS cB cI cJ cZ h a s) [(0, .ref h), (4, .int x4)] [] (fun x u => x = r ∧ u = (mwS cB cI cJ cZ h a s')) := by
  intro p e s0 m below meth c A E H locs ls hP hD hS hl
  obtain ⟨C, hr, hlocks, hA, hK, hN⟩ := id E
  obtain ⟨hx, hb, hml, hown, hts⟩ := id C
  unfold r_lawTells_119 at hB
  refine lv_aload_n hx hb dX11_lawTells_119 rfl (lv_at hl 0 rfl) ?_
  refine lv_aload_n hx hb dX11_lawTells_120 rfl (lv_at hl 0 rfl) ?_
  refine q_get (v := .ref (a 33)) C inX11_lawTells_X11 hK hP 0 rfl rfl 33 (by decide) rfl LX11_lawTells_77 rfl dX11_lawTells_121 ?_
  refine lv_iload hx hb dX11_lawTells_124 (lv_at hl 1 rfl) ?_
  obtain ⟨g1, hB⟩ := guard_inv hB
  refine q_iald (x := (s.f 33 (Int32.toNatClampNeg x4))) C hK hP 20 1 rfl rfl (vpb_in g1) dX11_lawTells_126 rfl ?_
  refine lv_aload_n hx hb dX11_lawTells_127 rfl (lv_at hl 0 rfl) ?_
  refine q_get (v := .ref (a 34)) C inX11_lawTells_X11 hK hP 0 rfl rfl 34 (by decide) rfl LX11_lawTells_80 rfl dX11_lawTells_128 ?_
  refine lv_iload hx hb dX11_lawTells_131 (lv_at hl 1 rfl) ?_
  obtain ⟨g2, hB⟩ := guard_inv hB
  refine q_iald (x := (s.f 34 (Int32.toNatClampNeg x4))) C hK hP 21 1 rfl rfl (vpb_in g2) dX11_lawTells_133 rfl ?_
  obtain ⟨q_, s3, hc, hB⟩ := bindI_inv hB
  refine q_goiF (va_runV (As := [.int (s.f 33 (Int32.toNatClampNeg x4)), .int (s.f 34 (Int32.toNatClampNeg x4))]) (rest := []) C (cr_termOf hc _) (cwV 2 hts gX11_lawTells_X11_termOf rfl rfl rfl (by decide +kernel) ⟨Nat.le_of_ble_eq_true rfl, Nat.le_of_ble_eq_true rfl⟩) (q_preV hK hP (ci := 11) (q0 := 0) rfl rfl rfl (q_preF hN hK hP hD)) rfl rfl hl.1 rfl (lv_room (Nat.le_of_ble_eq_true rfl)) dX11_lawTells_134 ⟨Nat.le_of_ble_eq_true rfl, Nat.le_of_ble_eq_true rfl⟩) hD hS hA (fun r4 w1 H locs hw hP hD hS => ?_)
  obtain ⟨hq_, hw⟩ := hw; subst hw; subst hq_
  refine lv_istore (lv' := [(5, .int r4), (0, .ref h), (4, .int x4)]) hx hb dX11_lawTells_137 hl (by decide) rfl (fun ls hl => ?_)
  refine lv_aload_n hx hb dX11_lawTells_139 rfl (lv_at hl 1 rfl) ?_
  refine q_get (v := .int (s3.v 42)) C inX11_lawTells_X11 hK hP 0 rfl rfl 42 (by decide) rfl LX11_lawTells_277 rfl dX11_lawTells_140 ?_
  refine lv_if_eq (tgt := 150) hx hb dX11_lawTells_143 (by decide) (fun c5 => ?_) (fun c5 => ?_)
  · have hB := if_p hB c5
    refine lv_iload hx hb dX11_lawTells_150 (lv_at hl 0 rfl) ?_
    exact q_iret C hr hlocks hK hP hD hS (Nat.le_of_ble_eq_true rfl) (Nat.le_of_ble_eq_true rfl) dX11_lawTells_152 (by cases hB; exact ⟨rfl, rfl⟩)
  · have hB := if_n hB c5
    refine lv_iconst (v := 0) hx hb dX11_lawTells_146 (by decide) ?_
    refine lv_goto (tgt := 152) hx hb dX11_lawTells_147 (by decide) ?_
    exact q_iret C hr hlocks hK hP hD hS (Nat.le_of_ble_eq_true rfl) (Nat.le_of_ble_eq_true rfl) dX11_lawTells_152 (by cases hB; exact ⟨rfl, rfl⟩)
set_option maxHeartbeats 4000000 in
set_option maxRecDepth 100000 in
theorem br_lawTells_39 {l : Launch} {dC : Nat → ClassId} {dI : Nat → Nat → Nat} {cB cI cJ cZ cS : ClassId} {h : Nat} {a : Nat → Nat} {as : List Value} {r : Int32} {s' : RS} {k39 : RS → Int32 → Int32 → Option (Int32 × RS)} (hk39 : ∀ (s : RS) (x3 : Int32) (x4 : Int32), k39 s x3 x4 = some (r, s') → BlkI l yX11_lawTells wsX11_lawTells ({ frames := 1, cells := 0, slots := 0, locals := 27 }) cX11_lawTells 7 (some .int) (dC, dI) (tysA cB cI cJ cZ cS) as 39 (mwS cB cI cJ cZ h a s) [(0, .ref h), (3, .int x3), (4, .int x4)] [] (fun x u => x = r ∧ u = (mwS cB cI cJ cZ h a s'))) (s : RS) (x3 : Int32) (x4 : Int32) (hB : r_lawTells_39 k39 s x3 x4 = some (r, s')) : BlkI l yX11_lawTells wsX11_lawTells ({ frames := 1, cells := 0, slots := 0, locals := 27 }) cX11_lawTells 7 (some .int) (dC, dI) (tysA cB cI cJ cZ cS) as 39 (mwS cB cI cJ cZ h a s) [(0, .ref h), (3, .int x3), (4, .int x4)] [] (fun x u => x = r ∧ u = (mwS cB cI cJ cZ h a s')) := by
  intro p e s0 m below meth c A E H locs ls hP hD hS hl
  obtain ⟨C, hr, hlocks, hA, hK, hN⟩ := id E
  obtain ⟨hx, hb, hml, hown, hts⟩ := id C
  unfold r_lawTells_39 at hB
  refine lv_iload hx hb dX11_lawTells_39 (lv_at hl 2 rfl) ?_
  refine lv_aload_n hx hb dX11_lawTells_41 rfl (lv_at hl 0 rfl) ?_
  refine q_get (v := .ref (a 28)) C inX11_lawTells_X11 hK hP 0 rfl rfl 28 (by decide) rfl LX11_lawTells_64 rfl dX11_lawTells_42 ?_
  refine lv_iload_n hx hb dX11_lawTells_45 rfl (lv_at hl 1 rfl) ?_
  obtain ⟨g1, hB⟩ := guard_inv hB
  refine q_iald (x := (s.f 28 (Int32.toNatClampNeg x3))) C hK hP 16 1 rfl rfl (vpb_in g1) dX11_lawTells_46 rfl ?_
  refine lv_icmp_ge (tgt := 159) hx hb dX11_lawTells_47 (by decide) (fun c2 => ?_) (fun c2 => ?_)
  · have hB := if_p hB c2
    refine lv_iconst (v := 0) hx hb dX11_lawTells_159 (by decide) ?_
    exact q_iret C hr hlocks hK hP hD hS (Nat.le_of_ble_eq_true rfl) (Nat.le_of_ble_eq_true rfl) dX11_lawTells_160 (by cases hB; exact ⟨rfl, rfl⟩)
  · have hB := if_n hB c2
    refine lv_aload_n hx hb dX11_lawTells_50 rfl (lv_at hl 0 rfl) ?_
    refine q_get (v := .ref (a 30)) C inX11_lawTells_X11 hK hP 0 rfl rfl 30 (by decide) rfl LX11_lawTells_67 rfl dX11_lawTells_51 ?_
    refine lv_iload hx hb dX11_lawTells_54 (lv_at hl 2 rfl) ?_
    obtain ⟨g3, hB⟩ := guard_inv hB
    refine q_zald (x := (s.f 30 (Int32.toNatClampNeg x4))) C hK hP 17 3 rfl rfl (vpb_in g3) dX11_lawTells_56 rfl ?_
    refine lv_if_eq (tgt := 119) hx hb dX11_lawTells_57 (by decide) (fun c4 => ?_) (fun c4 => ?_)
    · have hB := if_p hB c4
      exact br_lawTells_119 _ _ hB p e s0 m below meth c A E H locs ls hP hD hS (lv_sub hl [0, 2] rfl)
    · have hB := if_n hB c4
      refine lv_aload_n hx hb dX11_lawTells_60 rfl (lv_at hl 0 rfl) ?_
      refine lv_aload_n hx hb dX11_lawTells_61 rfl (lv_at hl 0 rfl) ?_
      refine q_get (v := .ref (a 31)) C inX11_lawTells_X11 hK hP 0 rfl rfl 31 (by decide) rfl LX11_lawTells_71 rfl dX11_lawTells_62 ?_
      refine lv_iload hx hb dX11_lawTells_65 (lv_at hl 2 rfl) ?_
      obtain ⟨g5, hB⟩ := guard_inv hB
      refine q_iald (x := (s.f 31 (Int32.toNatClampNeg x4))) C hK hP 18 1 rfl rfl (vpb_in g5) dX11_lawTells_67 rfl ?_
      refine lv_aload_n hx hb dX11_lawTells_68 rfl (lv_at hl 0 rfl) ?_
      refine q_get (v := .ref (a 32)) C inX11_lawTells_X11 hK hP 0 rfl rfl 32 (by decide) rfl LX11_lawTells_74 rfl dX11_lawTells_69 ?_
      refine lv_iload hx hb dX11_lawTells_72 (lv_at hl 2 rfl) ?_
      obtain ⟨g6, hB⟩ := guard_inv hB
      refine q_iald (x := (s.f 32 (Int32.toNatClampNeg x4))) C hK hP 19 1 rfl rfl (vpb_in g6) dX11_lawTells_74 rfl ?_
      obtain ⟨q_, s7, hc, hB⟩ := bindI_inv hB
      refine q_goiF (va_runV (As := [.int (s.f 31 (Int32.toNatClampNeg x4)), .int (s.f 32 (Int32.toNatClampNeg x4))]) (rest := []) C (cr_termOf hc _) (cwV 2 hts gX11_lawTells_X11_termOf rfl rfl rfl (by decide +kernel) ⟨Nat.le_of_ble_eq_true rfl, Nat.le_of_ble_eq_true rfl⟩) (q_preV hK hP (ci := 11) (q0 := 0) rfl rfl rfl (q_preF hN hK hP hD)) rfl rfl hl.1 rfl (lv_room (Nat.le_of_ble_eq_true rfl)) dX11_lawTells_75 ⟨Nat.le_of_ble_eq_true rfl, Nat.le_of_ble_eq_true rfl⟩) hD hS hA (fun r8 w1 H locs hw hP hD hS => ?_)
      obtain ⟨hq_, hw⟩ := hw; subst hw; subst hq_
      refine lv_istore (lv' := [(5, .int r8), (0, .ref h), (3, .int x3), (4, .int x4)]) hx hb dX11_lawTells_78 hl (by decide) rfl (fun ls hl => ?_)
      refine lv_aload_n hx hb dX11_lawTells_80 rfl (lv_at hl 1 rfl) ?_
      refine lv_aload_n hx hb dX11_lawTells_81 rfl (lv_at hl 1 rfl) ?_
      refine q_get (v := .ref (a 32)) C inX11_lawTells_X11 hK hP 0 rfl rfl 32 (by decide) rfl LX11_lawTells_74 rfl dX11_lawTells_82 ?_
      refine lv_iload hx hb dX11_lawTells_85 (lv_at hl 3 rfl) ?_
      obtain ⟨g9, hB⟩ := guard_inv hB
      refine q_iald (x := (s7.f 32 (Int32.toNatClampNeg x4))) C hK hP 19 1 rfl rfl (vpb_in g9) dX11_lawTells_87 rfl ?_
      refine lv_aload_n hx hb dX11_lawTells_88 rfl (lv_at hl 1 rfl) ?_
      refine q_get (v := .ref (a 33)) C inX11_lawTells_X11 hK hP 0 rfl rfl 33 (by decide) rfl LX11_lawTells_77 rfl dX11_lawTells_89 ?_
      refine lv_iload hx hb dX11_lawTells_92 (lv_at hl 3 rfl) ?_
      obtain ⟨g10, hB⟩ := guard_inv hB
      refine q_iald (x := (s7.f 33 (Int32.toNatClampNeg x4))) C hK hP 20 1 rfl rfl (vpb_in g10) dX11_lawTells_94 rfl ?_
      obtain ⟨q_, s11, hc, hB⟩ := bindI_inv hB
      refine q_goiF (va_runV (As := [.int (s7.f 32 (Int32.toNatClampNeg x4)), .int (s7.f 33 (Int32.toNatClampNeg x4))]) (rest := []) C (cr_termOf hc _) (cwV 2 hts gX11_lawTells_X11_termOf rfl rfl rfl (by decide +kernel) ⟨Nat.le_of_ble_eq_true rfl, Nat.le_of_ble_eq_true rfl⟩) (q_preV hK hP (ci := 11) (q0 := 0) rfl rfl rfl (q_preF hN hK hP hD)) rfl rfl hl.1 rfl (lv_room (Nat.le_of_ble_eq_true rfl)) dX11_lawTells_95 ⟨Nat.le_of_ble_eq_true rfl, Nat.le_of_ble_eq_true rfl⟩) hD hS hA (fun r12 w1 H locs hw hP hD hS => ?_)
      obtain ⟨hq_, hw⟩ := hw; subst hw; subst hq_
      refine lv_istore (lv' := [(6, .int r12), (5, .int r8), (0, .ref h), (3, .int x3), (4, .int x4)]) hx hb dX11_lawTells_98 hl (by decide) rfl (fun ls hl => ?_)
      refine lv_aload_n hx hb dX11_lawTells_100 rfl (lv_at hl 2 rfl) ?_
      refine q_get (v := .int (s11.v 42)) C inX11_lawTells_X11 hK hP 0 rfl rfl 42 (by decide) rfl LX11_lawTells_277 rfl dX11_lawTells_101 ?_
      refine lv_if_eq (tgt := 109) hx hb dX11_lawTells_104 (by decide) (fun c13 => ?_) (fun c13 => ?_)
      · have hB := if_p hB c13
        refine lv_iload hx hb dX11_lawTells_109 (lv_at hl 1 rfl) ?_
        refine lv_iload hx hb dX11_lawTells_111 (lv_at hl 0 rfl) ?_
        refine lv_icmp_lt (tgt := 119) hx hb dX11_lawTells_113 (by decide) (fun c14 => ?_) (fun c14 => ?_)
        · have hB := if_p hB c14
          exact br_lawTells_119 _ _ hB p e s0 m below meth c A E H locs ls hP hD hS (lv_sub hl [2, 4] rfl)
        · have hB := if_n hB c14
          refine lv_goto (tgt := 153) hx hb dX11_lawTells_116 (by decide) ?_
          refine lv_iinc (v := (x4 + 1)) (lv' := [(4, .int (x4 + 1)), (6, .int r12), (5, .int r8), (0, .ref h), (3, .int x3)]) hx hb dX11_lawTells_153 hl (k := 4) rfl (rfl) (by decide) rfl (fun ls hl => ?_)
          refine lv_goto (tgt := 39) hx hb dX11_lawTells_156 (by decide) ?_
          exact hk39 _ _ _ hB p e s0 m below meth c A E H locs ls hP hD hS (lv_sub hl [3, 4, 0] rfl)
      · have hB := if_n hB c13
        refine lv_iconst (v := 0) hx hb dX11_lawTells_107 (by decide) ?_
        exact q_iret C hr hlocks hK hP hD hS (Nat.le_of_ble_eq_true rfl) (Nat.le_of_ble_eq_true rfl) dX11_lawTells_108 (by cases hB; exact ⟨rfl, rfl⟩)
theorem br_lawTells_39L {l : Launch} {dC : Nat → ClassId} {dI : Nat → Nat → Nat} {cB cI cJ cZ cS : ClassId} {h : Nat} {a : Nat → Nat} {as : List Value} {r : Int32} {s' : RS} : ∀ (n : Nat) (s : RS) (x3 : Int32) (x4 : Int32), r_lawTells_39L n s x3 x4 = some (r, s') → BlkI l yX11_lawTells wsX11_lawTells ({ frames := 1, cells := 0, slots := 0, locals := 27 }) cX11_lawTells 7 (some .int) (dC, dI) (tysA cB cI cJ cZ cS) as 39 (mwS cB cI cJ cZ h a s) [(0, .ref h), (3, .int x3), (4, .int x4)] [] (fun x u => x = r ∧ u = (mwS cB cI cJ cZ h a s')) := by
  intro n
  induction n with
  | zero => intro s x3 x4 hB; exact none_ne hB
  | succ n ih => intro s x3 x4 hB; exact br_lawTells_39 ih _ _ _ hB
set_option maxHeartbeats 4000000 in
set_option maxRecDepth 100000 in
theorem br_lawTells {l : Launch} {dC : Nat → ClassId} {dI : Nat → Nat → Nat} {cB cI cJ cZ cS : ClassId} {h : Nat} {a : Nat → Nat} {as : List Value} {r : Int32} {s' : RS} (s : RS) (x1 : Int32) (x2 : Int32) (hB : r_lawTells s x1 x2 = some (r, s')) : BlkI l yX11_lawTells wsX11_lawTells ({ frames := 1, cells := 0, slots := 0, locals := 27 }) cX11_lawTells 7 (some .int) (dC, dI) (tysA cB cI cJ cZ cS) as 0 (mwS cB cI cJ cZ h a s) [(0, .ref h), (1, .int x1), (2, .int x2)] [] (fun x u => x = r ∧ u = (mwS cB cI cJ cZ h a s')) := by
  intro p e s0 m below meth c A E H locs ls hP hD hS hl
  obtain ⟨C, hr, hlocks, hA, hK, hN⟩ := id E
  obtain ⟨hx, hb, hml, hown, hts⟩ := id C
  unfold r_lawTells at hB
  refine lv_iconst (v := 4) hx hb dX11_lawTells_0 (by decide) ?_
  refine lv_aload_n hx hb dX11_lawTells_1 rfl (lv_at hl 0 rfl) ?_
  refine q_get (v := .int (s.v 18)) C inX11_lawTells_X11 hK hP 0 rfl rfl 18 (by decide) rfl LX11_lawTells_215 rfl dX11_lawTells_2 ?_
  refine lv_imul hx hb dX11_lawTells_5 ?_
  refine lv_iload_n hx hb dX11_lawTells_6 rfl (lv_at hl 1 rfl) ?_
  refine lv_iadd hx hb dX11_lawTells_7 ?_
  refine lv_istore_n (lv' := [(3, .int ((4 * (s.v 18)) + x1)), (0, .ref h), (1, .int x1), (2, .int x2)]) hx hb dX11_lawTells_8 rfl hl (by decide) rfl (fun ls hl => ?_)
  refine lv_aload_n hx hb dX11_lawTells_9 rfl (lv_at hl 1 rfl) ?_
  refine q_get (v := .ref (a 27)) C inX11_lawTells_X11 hK hP 0 rfl rfl 27 (by decide) rfl LX11_lawTells_61 rfl dX11_lawTells_10 ?_
  refine lv_iload_n hx hb dX11_lawTells_13 rfl (lv_at hl 0 rfl) ?_
  obtain ⟨g1, hB⟩ := guard_inv hB
  refine q_iald (x := (s.f 27 (Int32.toNatClampNeg ((4 * (s.v 18)) + x1)))) C hK hP 15 1 rfl rfl (vpb_in g1) dX11_lawTells_14 rfl ?_
  refine lv_aload_n hx hb dX11_lawTells_15 rfl (lv_at hl 1 rfl) ?_
  refine q_get (v := .ref (a 28)) C inX11_lawTells_X11 hK hP 0 rfl rfl 28 (by decide) rfl LX11_lawTells_64 rfl dX11_lawTells_16 ?_
  refine lv_iload_n hx hb dX11_lawTells_19 rfl (lv_at hl 0 rfl) ?_
  obtain ⟨g2, hB⟩ := guard_inv hB
  refine q_iald (x := (s.f 28 (Int32.toNatClampNeg ((4 * (s.v 18)) + x1)))) C hK hP 16 1 rfl rfl (vpb_in g2) dX11_lawTells_20 rfl ?_
  refine lv_icmp_ne (tgt := 26) hx hb dX11_lawTells_21 (by decide) (fun c3 => ?_) (fun c3 => ?_)
  · have hB := if_n hB c3
    refine lv_aload_n hx hb dX11_lawTells_26 rfl (lv_at hl 1 rfl) ?_
    refine lv_iconst (v := 0) hx hb dX11_lawTells_27 (by decide) ?_
    obtain ⟨s4, hs5, hB⟩ := letS_inv hB
    refine q_put (ty := .boolean) (w2 := (mwS cB cI cJ cZ h a s4)) tyX11 tyX11_ok nmX11 C inX11_lawTells_X11 hK hP hD hS 0 rfl rfl 42 (by decide) rfl LX11_lawTells_277 rfl (by decide +kernel) (by decide +kernel) rfl (Nat.le_of_ble_eq_true rfl) dX11_lawTells_28 (mwS_v42 hs5) (fun H locs hP hD hS => ?_)
    refine lv_aload_n hx hb dX11_lawTells_31 rfl (lv_at hl 1 rfl) ?_
    refine q_get (v := .ref (a 27)) C inX11_lawTells_X11 hK hP 0 rfl rfl 27 (by decide) rfl LX11_lawTells_61 rfl dX11_lawTells_32 ?_
    refine lv_iload_n hx hb dX11_lawTells_35 rfl (lv_at hl 0 rfl) ?_
    obtain ⟨g6, hB⟩ := guard_inv hB
    refine q_iald (x := (s4.f 27 (Int32.toNatClampNeg ((4 * (s.v 18)) + x1)))) C hK hP 15 1 rfl rfl (vpb_in g6) dX11_lawTells_36 rfl ?_
    refine lv_istore (lv' := [(4, .int (s4.f 27 (Int32.toNatClampNeg ((4 * (s.v 18)) + x1)))), (3, .int ((4 * (s.v 18)) + x1)), (0, .ref h), (1, .int x1), (2, .int x2)]) hx hb dX11_lawTells_37 hl (by decide) rfl (fun ls hl => ?_)
    exact br_lawTells_39L fu _ _ _ hB p e s0 m below meth c A E H locs ls hP hD hS (lv_sub hl [2, 1, 0] rfl)
  · have hB := if_p hB c3
    refine lv_iload_n hx hb dX11_lawTells_24 rfl (lv_at hl 3 rfl) ?_
    exact q_iret C hr hlocks hK hP hD hS (Nat.le_of_ble_eq_true rfl) (Nat.le_of_ble_eq_true rfl) dX11_lawTells_25 (by cases hB; exact ⟨rfl, rfl⟩)
theorem cr_lawTells {l : Launch} {dC : Nat → ClassId} {dI : Nat → Nat → Nat} {cB cI cJ cZ cS : ClassId} {h : Nat} {a : Nat → Nat} {r : Int32} {s' : RS} {s : RS} {x1 : Int32} {x2 : Int32} (hB : r_lawTells s x1 x2 = some (r, s')) : CI l yX11_lawTells wsX11_lawTells ({ frames := 1, cells := 0, slots := 0, locals := 27 }) (dC, dI) (tysA cB cI cJ cZ cS) (mwS cB cI cJ cZ h a s) [.ref h, .int x1, .int x2] (fun x u => x = r ∧ u = (mwS cB cI cJ cZ h a s')) :=
  CI_of (cc := cX11_lawTells) (maxL := 7) (ret := (some .int)) (by decide) rfl (Nat.le_of_ble_eq_true rfl) (br_lawTells _ _ _ hB)
end
section
theorem dX11_looks_0 : decode cX11_looks 0 = .ok (.iconst 0, 1) := dc1_3 (by decide +kernel)
theorem dX11_looks_1 : decode cX11_looks 1 = .ok (.istore_n 2, 1) := dc1_61 (by decide +kernel)
theorem dX11_looks_2 : decode cX11_looks 2 = .ok (.iload_n 2, 1) := dc1_28 (by decide +kernel)
theorem dX11_looks_3 : decode cX11_looks 3 = .ok (.bipush 9, 2) := dcb_16 (n := 9) (by decide +kernel)
theorem dX11_looks_5 : decode cX11_looks 5 = .ok (.if_icmp .ge 16, 3) := dcs_162 (n := 16) (by decide +kernel)
theorem dX11_looks_8 : decode cX11_looks 8 = .ok (.aload_n 0, 1) := dc1_42 (by decide +kernel)
theorem dX11_looks_9 : decode cX11_looks 9 = .ok (.getfield 92, 3) := dcw_180 (by decide +kernel)
theorem dX11_looks_12 : decode cX11_looks 12 = .ok (.iload_n 2, 1) := dc1_28 (by decide +kernel)
theorem dX11_looks_13 : decode cX11_looks 13 = .ok (.iconst 0, 1) := dc1_3 (by decide +kernel)
theorem dX11_looks_14 : decode cX11_looks 14 = .ok (.iastore, 1) := dc1_79 (by decide +kernel)
theorem dX11_looks_15 : decode cX11_looks 15 = .ok (.iinc 2 1, 3) := dc_iinc (m := 1) (by decide +kernel)
theorem dX11_looks_18 : decode cX11_looks 18 = .ok (.goto (-16), 3) := dcs_167 (n := 65520) (by decide +kernel)
theorem dX11_looks_21 : decode cX11_looks 21 = .ok (.aload_n 0, 1) := dc1_42 (by decide +kernel)
theorem dX11_looks_22 : decode cX11_looks 22 = .ok (.getfield 92, 3) := dcw_180 (by decide +kernel)
theorem dX11_looks_25 : decode cX11_looks 25 = .ok (.iconst 5, 1) := dc1_8 (by decide +kernel)
theorem dX11_looks_26 : decode cX11_looks 26 = .ok (.aload_n 0, 1) := dc1_42 (by decide +kernel)
theorem dX11_looks_27 : decode cX11_looks 27 = .ok (.getfield 101, 3) := dcw_180 (by decide +kernel)
theorem dX11_looks_30 : decode cX11_looks 30 = .ok (.bipush 27, 2) := dcb_16 (n := 27) (by decide +kernel)
theorem dX11_looks_32 : decode cX11_looks 32 = .ok (.iaload, 1) := dc1_46 (by decide +kernel)
theorem dX11_looks_33 : decode cX11_looks 33 = .ok (.iastore, 1) := dc1_79 (by decide +kernel)
theorem dX11_looks_34 : decode cX11_looks 34 = .ok (.iload_n 1, 1) := dc1_27 (by decide +kernel)
theorem dX11_looks_35 : decode cX11_looks 35 = .ok (.ifCond .ge 4, 3) := dcs_156 (n := 4) (by decide +kernel)
theorem dX11_looks_38 : decode cX11_looks 38 = .ok (.return_, 1) := dc1_177 (by decide +kernel)
theorem dX11_looks_39 : decode cX11_looks 39 = .ok (.aload_n 0, 1) := dc1_42 (by decide +kernel)
theorem dX11_looks_40 : decode cX11_looks 40 = .ok (.getfield 92, 3) := dcw_180 (by decide +kernel)
theorem dX11_looks_43 : decode cX11_looks 43 = .ok (.iconst 2, 1) := dc1_5 (by decide +kernel)
theorem dX11_looks_44 : decode cX11_looks 44 = .ok (.aload_n 0, 1) := dc1_42 (by decide +kernel)
theorem dX11_looks_45 : decode cX11_looks 45 = .ok (.getfield 52, 3) := dcw_180 (by decide +kernel)
theorem dX11_looks_48 : decode cX11_looks 48 = .ok (.bipush 6, 2) := dcb_16 (n := 6) (by decide +kernel)
theorem dX11_looks_50 : decode cX11_looks 50 = .ok (.aload_n 0, 1) := dc1_42 (by decide +kernel)
theorem dX11_looks_51 : decode cX11_looks 51 = .ok (.getfield 215, 3) := dcw_180 (by decide +kernel)
theorem dX11_looks_54 : decode cX11_looks 54 = .ok (.imul, 1) := dc1_104 (by decide +kernel)
theorem dX11_looks_55 : decode cX11_looks 55 = .ok (.iload_n 1, 1) := dc1_27 (by decide +kernel)
theorem dX11_looks_56 : decode cX11_looks 56 = .ok (.iadd, 1) := dc1_96 (by decide +kernel)
theorem dX11_looks_57 : decode cX11_looks 57 = .ok (.iaload, 1) := dc1_46 (by decide +kernel)
theorem dX11_looks_58 : decode cX11_looks 58 = .ok (.iastore, 1) := dc1_79 (by decide +kernel)
theorem dX11_looks_59 : decode cX11_looks 59 = .ok (.aload_n 0, 1) := dc1_42 (by decide +kernel)
theorem dX11_looks_60 : decode cX11_looks 60 = .ok (.getfield 92, 3) := dcw_180 (by decide +kernel)
theorem dX11_looks_63 : decode cX11_looks 63 = .ok (.iconst 3, 1) := dc1_6 (by decide +kernel)
theorem dX11_looks_64 : decode cX11_looks 64 = .ok (.aload_n 0, 1) := dc1_42 (by decide +kernel)
theorem dX11_looks_65 : decode cX11_looks 65 = .ok (.getfield 55, 3) := dcw_180 (by decide +kernel)
theorem dX11_looks_68 : decode cX11_looks 68 = .ok (.bipush 6, 2) := dcb_16 (n := 6) (by decide +kernel)
theorem dX11_looks_70 : decode cX11_looks 70 = .ok (.aload_n 0, 1) := dc1_42 (by decide +kernel)
theorem dX11_looks_71 : decode cX11_looks 71 = .ok (.getfield 215, 3) := dcw_180 (by decide +kernel)
theorem dX11_looks_74 : decode cX11_looks 74 = .ok (.imul, 1) := dc1_104 (by decide +kernel)
theorem dX11_looks_75 : decode cX11_looks 75 = .ok (.iload_n 1, 1) := dc1_27 (by decide +kernel)
theorem dX11_looks_76 : decode cX11_looks 76 = .ok (.iadd, 1) := dc1_96 (by decide +kernel)
theorem dX11_looks_77 : decode cX11_looks 77 = .ok (.iaload, 1) := dc1_46 (by decide +kernel)
theorem dX11_looks_78 : decode cX11_looks 78 = .ok (.iastore, 1) := dc1_79 (by decide +kernel)
theorem dX11_looks_79 : decode cX11_looks 79 = .ok (.aload_n 0, 1) := dc1_42 (by decide +kernel)
theorem dX11_looks_80 : decode cX11_looks 80 = .ok (.getfield 92, 3) := dcw_180 (by decide +kernel)
theorem dX11_looks_83 : decode cX11_looks 83 = .ok (.bipush 6, 2) := dcb_16 (n := 6) (by decide +kernel)
theorem dX11_looks_85 : decode cX11_looks 85 = .ok (.iload_n 1, 1) := dc1_27 (by decide +kernel)
theorem dX11_looks_86 : decode cX11_looks 86 = .ok (.iastore, 1) := dc1_79 (by decide +kernel)
theorem dX11_looks_87 : decode cX11_looks 87 = .ok (.aload_n 0, 1) := dc1_42 (by decide +kernel)
theorem dX11_looks_88 : decode cX11_looks 88 = .ok (.getfield 92, 3) := dcw_180 (by decide +kernel)
theorem dX11_looks_91 : decode cX11_looks 91 = .ok (.bipush 8, 2) := dcb_16 (n := 8) (by decide +kernel)
theorem dX11_looks_93 : decode cX11_looks 93 = .ok (.aload_n 0, 1) := dc1_42 (by decide +kernel)
theorem dX11_looks_94 : decode cX11_looks 94 = .ok (.getfield 101, 3) := dcw_180 (by decide +kernel)
theorem dX11_looks_97 : decode cX11_looks 97 = .ok (.bipush 21, 2) := dcb_16 (n := 21) (by decide +kernel)
theorem dX11_looks_99 : decode cX11_looks 99 = .ok (.iload_n 1, 1) := dc1_27 (by decide +kernel)
theorem dX11_looks_100 : decode cX11_looks 100 = .ok (.iadd, 1) := dc1_96 (by decide +kernel)
theorem dX11_looks_101 : decode cX11_looks 101 = .ok (.iaload, 1) := dc1_46 (by decide +kernel)
theorem dX11_looks_102 : decode cX11_looks 102 = .ok (.iastore, 1) := dc1_79 (by decide +kernel)
theorem dX11_looks_103 : decode cX11_looks 103 = .ok (.return_, 1) := dc1_177 (by decide +kernel)
theorem ggX11_looksOver_X11_mayAt : GoodIn wsX11_looksOver wsX11_mayAt := gi_sub (fun w h => List.mem_cons_of_mem _ (List.mem_append_left _ (List.mem_append_right _ (List.mem_append_left _ h)))) gd_wsX11_mayAt
set_option maxRecDepth 20000 in
theorem gX11_looksOver_X11_mayAt : GoodIn wsX11_looksOver (wsV RX11 309 RX11 yX11_mayAt wsX11_mayAt) := goodIn_app (goodIn_r _ [3, 4, 5, 6] (by decide +kernel) (by decide +kernel)) ggX11_looksOver_X11_mayAt
theorem ggX11_looksOver_X11_bits : GoodIn wsX11_looksOver wsX11_bits := gi_sub (fun w h => List.mem_cons_of_mem _ (List.mem_append_left _ (List.mem_append_right _ (List.mem_append_right _ h)))) gd_wsX11_bits
set_option maxRecDepth 20000 in
theorem gX11_looksOver_X11_bits : GoodIn wsX11_looksOver (va_wsS RX11 312 yX11_bits wsX11_bits) := goodIn_app (goodIn_of _ (by decide +kernel)) ggX11_looksOver_X11_bits
theorem dX11_looksOver_0 : decode cX11_looksOver 0 = .ok (.aload_n 0, 1) := dc1_42 (by decide +kernel)
theorem dX11_looksOver_1 : decode cX11_looksOver 1 = .ok (.getfield 92, 3) := dcw_180 (by decide +kernel)
theorem dX11_looksOver_4 : decode cX11_looksOver 4 = .ok (.iconst 0, 1) := dc1_3 (by decide +kernel)
theorem dX11_looksOver_5 : decode cX11_looksOver 5 = .ok (.iload_n 1, 1) := dc1_27 (by decide +kernel)
theorem dX11_looksOver_6 : decode cX11_looksOver 6 = .ok (.iastore, 1) := dc1_79 (by decide +kernel)
theorem dX11_looksOver_7 : decode cX11_looksOver 7 = .ok (.aload_n 0, 1) := dc1_42 (by decide +kernel)
theorem dX11_looksOver_8 : decode cX11_looksOver 8 = .ok (.getfield 92, 3) := dcw_180 (by decide +kernel)
theorem dX11_looksOver_11 : decode cX11_looksOver 11 = .ok (.iconst 4, 1) := dc1_7 (by decide +kernel)
theorem dX11_looksOver_12 : decode cX11_looksOver 12 = .ok (.aload_n 0, 1) := dc1_42 (by decide +kernel)
theorem dX11_looksOver_13 : decode cX11_looksOver 13 = .ok (.iload_n 1, 1) := dc1_27 (by decide +kernel)
theorem dX11_looksOver_14 : decode cX11_looksOver 14 = .ok (.invokevirtual 309, 3) := dcw_182 (by decide +kernel)
theorem dX11_looksOver_17 : decode cX11_looksOver 17 = .ok (.invokestatic 312, 3) := dcw_184 (by decide +kernel)
theorem dX11_looksOver_20 : decode cX11_looksOver 20 = .ok (.iastore, 1) := dc1_79 (by decide +kernel)
theorem dX11_looksOver_21 : decode cX11_looksOver 21 = .ok (.aload_n 0, 1) := dc1_42 (by decide +kernel)
theorem dX11_looksOver_22 : decode cX11_looksOver 22 = .ok (.getfield 92, 3) := dcw_180 (by decide +kernel)
theorem dX11_looksOver_25 : decode cX11_looksOver 25 = .ok (.bipush 7, 2) := dcb_16 (n := 7) (by decide +kernel)
theorem dX11_looksOver_27 : decode cX11_looksOver 27 = .ok (.aload_n 0, 1) := dc1_42 (by decide +kernel)
theorem dX11_looksOver_28 : decode cX11_looksOver 28 = .ok (.getfield 101, 3) := dcw_180 (by decide +kernel)
theorem dX11_looksOver_31 : decode cX11_looksOver 31 = .ok (.iload_n 1, 1) := dc1_27 (by decide +kernel)
theorem dX11_looksOver_32 : decode cX11_looksOver 32 = .ok (.iaload, 1) := dc1_46 (by decide +kernel)
theorem dX11_looksOver_33 : decode cX11_looksOver 33 = .ok (.invokestatic 312, 3) := dcw_184 (by decide +kernel)
theorem dX11_looksOver_36 : decode cX11_looksOver 36 = .ok (.iastore, 1) := dc1_79 (by decide +kernel)
theorem dX11_looksOver_37 : decode cX11_looksOver 37 = .ok (.return_, 1) := dc1_177 (by decide +kernel)
theorem ggX11_needsOf_X11_looks : GoodIn wsX11_needsOf wsX11_looks := gi_sub (fun w h => List.mem_cons_of_mem _ (List.mem_append_left _ (List.mem_append_right _ (List.mem_append_left _ h)))) gd_wsX11_looks
set_option maxRecDepth 20000 in
theorem gX11_needsOf_X11_looks : GoodIn wsX11_needsOf (wsV RX11 315 RX11 yX11_looks wsX11_looks) := goodIn_app (goodIn_r _ [2, 3, 4, 5] (by decide +kernel) (by decide +kernel)) ggX11_needsOf_X11_looks
theorem ggX11_needsOf_X11_looksOver : GoodIn wsX11_needsOf wsX11_looksOver := gi_sub (fun w h => List.mem_cons_of_mem _ (List.mem_append_left _ (List.mem_append_right _ (List.mem_append_right _ (List.mem_append_left _ h))))) gd_wsX11_looksOver
set_option maxRecDepth 20000 in
theorem gX11_needsOf_X11_looksOver : GoodIn wsX11_needsOf (wsV RX11 318 RX11 yX11_looksOver wsX11_looksOver) := goodIn_app (goodIn_r _ [6, 7, 8, 5] (by decide +kernel) (by decide +kernel)) ggX11_needsOf_X11_looksOver
theorem ggX11_needsOf_X11_oddsAt : GoodIn wsX11_needsOf wsX11_oddsAt := gi_sub (fun w h => List.mem_cons_of_mem _ (List.mem_append_left _ (List.mem_append_right _ (List.mem_append_right _ (List.mem_append_right _ (List.mem_append_left _ h)))))) gd_wsX11_oddsAt
set_option maxRecDepth 20000 in
theorem gX11_needsOf_X11_oddsAt : GoodIn wsX11_needsOf (wsV RX11 297 RX11 yX11_oddsAt wsX11_oddsAt) := goodIn_app (goodIn_r _ [9, 10, 11, 5] (by decide +kernel) (by decide +kernel)) ggX11_needsOf_X11_oddsAt
theorem ggX11_needsOf_X11_lawTells : GoodIn wsX11_needsOf wsX11_lawTells := gi_sub (fun w h => List.mem_cons_of_mem _ (List.mem_append_left _ (List.mem_append_right _ (List.mem_append_right _ (List.mem_append_right _ (List.mem_append_right _ (List.mem_append_left _ h))))))) gd_wsX11_lawTells
set_option maxRecDepth 20000 in
theorem gX11_needsOf_X11_lawTells : GoodIn wsX11_needsOf (wsV RX11 321 RX11 yX11_lawTells wsX11_lawTells) := goodIn_app (goodIn_r _ [12, 13, 14, 5] (by decide +kernel) (by decide +kernel)) ggX11_needsOf_X11_lawTells
theorem ggX11_needsOf_X11_within : GoodIn wsX11_needsOf wsX11_within := gi_sub (fun w h => List.mem_cons_of_mem _ (List.mem_append_left _ (List.mem_append_right _ (List.mem_append_right _ (List.mem_append_right _ (List.mem_append_right _ (List.mem_append_right _ h))))))) gd_wsX11_within
set_option maxRecDepth 20000 in
theorem gX11_needsOf_X11_within : GoodIn wsX11_needsOf (va_wsS RX11 324 yX11_within wsX11_within) := goodIn_app (goodIn_of _ (by decide +kernel)) ggX11_needsOf_X11_within
theorem dX11_needsOf_0 : decode cX11_needsOf 0 = .ok (.aload_n 0, 1) := dc1_42 (by decide +kernel)
theorem dX11_needsOf_1 : decode cX11_needsOf 1 = .ok (.iload_n 1, 1) := dc1_27 (by decide +kernel)
theorem dX11_needsOf_2 : decode cX11_needsOf 2 = .ok (.invokevirtual 315, 3) := dcw_182 (by decide +kernel)
theorem dX11_needsOf_5 : decode cX11_needsOf 5 = .ok (.aload_n 0, 1) := dc1_42 (by decide +kernel)
theorem dX11_needsOf_6 : decode cX11_needsOf 6 = .ok (.iload_n 2, 1) := dc1_28 (by decide +kernel)
theorem dX11_needsOf_7 : decode cX11_needsOf 7 = .ok (.invokevirtual 318, 3) := dcw_182 (by decide +kernel)
theorem dX11_needsOf_10 : decode cX11_needsOf 10 = .ok (.aload_n 0, 1) := dc1_42 (by decide +kernel)
theorem dX11_needsOf_11 : decode cX11_needsOf 11 = .ok (.getfield 92, 3) := dcw_180 (by decide +kernel)
theorem dX11_needsOf_14 : decode cX11_needsOf 14 = .ok (.iconst 1, 1) := dc1_4 (by decide +kernel)
theorem dX11_needsOf_15 : decode cX11_needsOf 15 = .ok (.aload_n 0, 1) := dc1_42 (by decide +kernel)
theorem dX11_needsOf_16 : decode cX11_needsOf 16 = .ok (.iload_n 2, 1) := dc1_28 (by decide +kernel)
theorem dX11_needsOf_17 : decode cX11_needsOf 17 = .ok (.iload_n 3, 1) := dc1_29 (by decide +kernel)
theorem dX11_needsOf_18 : decode cX11_needsOf 18 = .ok (.invokevirtual 297, 3) := dcw_182 (by decide +kernel)
theorem dX11_needsOf_21 : decode cX11_needsOf 21 = .ok (.iastore, 1) := dc1_79 (by decide +kernel)
theorem dX11_needsOf_22 : decode cX11_needsOf 22 = .ok (.aload_n 0, 1) := dc1_42 (by decide +kernel)
theorem dX11_needsOf_23 : decode cX11_needsOf 23 = .ok (.iconst 0, 1) := dc1_3 (by decide +kernel)
theorem dX11_needsOf_24 : decode cX11_needsOf 24 = .ok (.aload_n 0, 1) := dc1_42 (by decide +kernel)
theorem dX11_needsOf_25 : decode cX11_needsOf 25 = .ok (.getfield 92, 3) := dcw_180 (by decide +kernel)
theorem dX11_needsOf_28 : decode cX11_needsOf 28 = .ok (.iconst 2, 1) := dc1_5 (by decide +kernel)
theorem dX11_needsOf_29 : decode cX11_needsOf 29 = .ok (.iaload, 1) := dc1_46 (by decide +kernel)
theorem dX11_needsOf_30 : decode cX11_needsOf 30 = .ok (.invokevirtual 321, 3) := dcw_182 (by decide +kernel)
theorem dX11_needsOf_33 : decode cX11_needsOf 33 = .ok (.iconst 0, 1) := dc1_3 (by decide +kernel)
theorem dX11_needsOf_34 : decode cX11_needsOf 34 = .ok (.bipush 9, 2) := dcb_16 (n := 9) (by decide +kernel)
theorem dX11_needsOf_36 : decode cX11_needsOf 36 = .ok (.invokestatic 324, 3) := dcw_184 (by decide +kernel)
theorem dX11_needsOf_39 : decode cX11_needsOf 39 = .ok (.ireturn, 1) := dc1_172 (by decide +kernel)
theorem ggX11_faresOf_X11_looks : GoodIn wsX11_faresOf wsX11_looks := gi_sub (fun w h => List.mem_cons_of_mem _ (List.mem_append_left _ (List.mem_append_right _ (List.mem_append_left _ h)))) gd_wsX11_looks
set_option maxRecDepth 20000 in
theorem gX11_faresOf_X11_looks : GoodIn wsX11_faresOf (wsV RX11 315 RX11 yX11_looks wsX11_looks) := goodIn_app (goodIn_r _ [1, 2, 3, 4] (by decide +kernel) (by decide +kernel)) ggX11_faresOf_X11_looks
theorem ggX11_faresOf_X11_lawTells : GoodIn wsX11_faresOf wsX11_lawTells := gi_sub (fun w h => List.mem_cons_of_mem _ (List.mem_append_left _ (List.mem_append_right _ (List.mem_append_right _ (List.mem_append_left _ h))))) gd_wsX11_lawTells
set_option maxRecDepth 20000 in
theorem gX11_faresOf_X11_lawTells : GoodIn wsX11_faresOf (wsV RX11 321 RX11 yX11_lawTells wsX11_lawTells) := goodIn_app (goodIn_r _ [5, 6, 7, 4] (by decide +kernel) (by decide +kernel)) ggX11_faresOf_X11_lawTells
theorem ggX11_faresOf_X11_within : GoodIn wsX11_faresOf wsX11_within := gi_sub (fun w h => List.mem_cons_of_mem _ (List.mem_append_left _ (List.mem_append_right _ (List.mem_append_right _ (List.mem_append_right _ h))))) gd_wsX11_within
set_option maxRecDepth 20000 in
theorem gX11_faresOf_X11_within : GoodIn wsX11_faresOf (va_wsS RX11 324 yX11_within wsX11_within) := goodIn_app (goodIn_of _ (by decide +kernel)) ggX11_faresOf_X11_within
theorem dX11_faresOf_0 : decode cX11_faresOf 0 = .ok (.aload_n 0, 1) := dc1_42 (by decide +kernel)
theorem dX11_faresOf_1 : decode cX11_faresOf 1 = .ok (.iload_n 1, 1) := dc1_27 (by decide +kernel)
theorem dX11_faresOf_2 : decode cX11_faresOf 2 = .ok (.invokevirtual 315, 3) := dcw_182 (by decide +kernel)
theorem dX11_faresOf_5 : decode cX11_faresOf 5 = .ok (.aload_n 0, 1) := dc1_42 (by decide +kernel)
theorem dX11_faresOf_6 : decode cX11_faresOf 6 = .ok (.iconst 1, 1) := dc1_4 (by decide +kernel)
theorem dX11_faresOf_7 : decode cX11_faresOf 7 = .ok (.iconst 1, 1) := dc1_4 (by decide +kernel)
theorem dX11_faresOf_8 : decode cX11_faresOf 8 = .ok (.invokevirtual 321, 3) := dcw_182 (by decide +kernel)
theorem dX11_faresOf_11 : decode cX11_faresOf 11 = .ok (.iconst 0, 1) := dc1_3 (by decide +kernel)
theorem dX11_faresOf_12 : decode cX11_faresOf 12 = .ok (.bipush 99, 2) := dcb_16 (n := 99) (by decide +kernel)
theorem dX11_faresOf_14 : decode cX11_faresOf 14 = .ok (.invokestatic 324, 3) := dcw_184 (by decide +kernel)
theorem dX11_faresOf_17 : decode cX11_faresOf 17 = .ok (.ireturn, 1) := dc1_172 (by decide +kernel)
theorem ggX11_doesDare_X11_looks : GoodIn wsX11_doesDare wsX11_looks := gi_sub (fun w h => List.mem_cons_of_mem _ (List.mem_append_left _ (List.mem_append_right _ (List.mem_append_left _ h)))) gd_wsX11_looks
set_option maxRecDepth 20000 in
theorem gX11_doesDare_X11_looks : GoodIn wsX11_doesDare (wsV RX11 315 RX11 yX11_looks wsX11_looks) := goodIn_app (goodIn_r _ [1, 2, 3, 4] (by decide +kernel) (by decide +kernel)) ggX11_doesDare_X11_looks
theorem ggX11_doesDare_X11_lawTells : GoodIn wsX11_doesDare wsX11_lawTells := gi_sub (fun w h => List.mem_cons_of_mem _ (List.mem_append_left _ (List.mem_append_right _ (List.mem_append_right _ h)))) gd_wsX11_lawTells
set_option maxRecDepth 20000 in
theorem gX11_doesDare_X11_lawTells : GoodIn wsX11_doesDare (wsV RX11 321 RX11 yX11_lawTells wsX11_lawTells) := goodIn_app (goodIn_r _ [5, 6, 7, 4] (by decide +kernel) (by decide +kernel)) ggX11_doesDare_X11_lawTells
theorem dX11_doesDare_0 : decode cX11_doesDare 0 = .ok (.aload_n 0, 1) := dc1_42 (by decide +kernel)
theorem dX11_doesDare_1 : decode cX11_doesDare 1 = .ok (.iload_n 1, 1) := dc1_27 (by decide +kernel)
theorem dX11_doesDare_2 : decode cX11_doesDare 2 = .ok (.invokevirtual 315, 3) := dcw_182 (by decide +kernel)
theorem dX11_doesDare_5 : decode cX11_doesDare 5 = .ok (.aload_n 0, 1) := dc1_42 (by decide +kernel)
theorem dX11_doesDare_6 : decode cX11_doesDare 6 = .ok (.iconst 2, 1) := dc1_5 (by decide +kernel)
theorem dX11_doesDare_7 : decode cX11_doesDare 7 = .ok (.iconst 1, 1) := dc1_4 (by decide +kernel)
theorem dX11_doesDare_8 : decode cX11_doesDare 8 = .ok (.invokevirtual 321, 3) := dcw_182 (by decide +kernel)
theorem dX11_doesDare_11 : decode cX11_doesDare 11 = .ok (.ifCond .le 7, 3) := dcs_158 (n := 7) (by decide +kernel)
theorem dX11_doesDare_14 : decode cX11_doesDare 14 = .ok (.iconst 1, 1) := dc1_4 (by decide +kernel)
theorem dX11_doesDare_15 : decode cX11_doesDare 15 = .ok (.goto 4, 3) := dcs_167 (n := 4) (by decide +kernel)
theorem dX11_doesDare_18 : decode cX11_doesDare 18 = .ok (.iconst 0, 1) := dc1_3 (by decide +kernel)
theorem dX11_doesDare_19 : decode cX11_doesDare 19 = .ok (.ireturn, 1) := dc1_172 (by decide +kernel)
theorem ggX11_shiftsOf_X11_looks : GoodIn wsX11_shiftsOf wsX11_looks := gi_sub (fun w h => List.mem_cons_of_mem _ (List.mem_append_left _ (List.mem_append_right _ (List.mem_append_left _ h)))) gd_wsX11_looks
set_option maxRecDepth 20000 in
theorem gX11_shiftsOf_X11_looks : GoodIn wsX11_shiftsOf (wsV RX11 315 RX11 yX11_looks wsX11_looks) := goodIn_app (goodIn_r _ [1, 2, 3, 4] (by decide +kernel) (by decide +kernel)) ggX11_shiftsOf_X11_looks
theorem ggX11_shiftsOf_X11_looksOver : GoodIn wsX11_shiftsOf wsX11_looksOver := gi_sub (fun w h => List.mem_cons_of_mem _ (List.mem_append_left _ (List.mem_append_right _ (List.mem_append_right _ (List.mem_append_left _ h))))) gd_wsX11_looksOver
set_option maxRecDepth 20000 in
theorem gX11_shiftsOf_X11_looksOver : GoodIn wsX11_shiftsOf (wsV RX11 318 RX11 yX11_looksOver wsX11_looksOver) := goodIn_app (goodIn_r _ [5, 6, 7, 4] (by decide +kernel) (by decide +kernel)) ggX11_shiftsOf_X11_looksOver
theorem ggX11_shiftsOf_X11_lawTells : GoodIn wsX11_shiftsOf wsX11_lawTells := gi_sub (fun w h => List.mem_cons_of_mem _ (List.mem_append_left _ (List.mem_append_right _ (List.mem_append_right _ (List.mem_append_right _ (List.mem_append_left _ h)))))) gd_wsX11_lawTells
set_option maxRecDepth 20000 in
theorem gX11_shiftsOf_X11_lawTells : GoodIn wsX11_shiftsOf (wsV RX11 321 RX11 yX11_lawTells wsX11_lawTells) := goodIn_app (goodIn_r _ [8, 9, 10, 4] (by decide +kernel) (by decide +kernel)) ggX11_shiftsOf_X11_lawTells
theorem ggX11_shiftsOf_X11_within : GoodIn wsX11_shiftsOf wsX11_within := gi_sub (fun w h => List.mem_cons_of_mem _ (List.mem_append_left _ (List.mem_append_right _ (List.mem_append_right _ (List.mem_append_right _ (List.mem_append_right _ h)))))) gd_wsX11_within
set_option maxRecDepth 20000 in
theorem gX11_shiftsOf_X11_within : GoodIn wsX11_shiftsOf (va_wsS RX11 324 yX11_within wsX11_within) := goodIn_app (goodIn_of _ (by decide +kernel)) ggX11_shiftsOf_X11_within
theorem dX11_shiftsOf_0 : decode cX11_shiftsOf 0 = .ok (.aload_n 0, 1) := dc1_42 (by decide +kernel)
theorem dX11_shiftsOf_1 : decode cX11_shiftsOf 1 = .ok (.iconst (-1), 1) := dc1_2 (by decide +kernel)
theorem dX11_shiftsOf_2 : decode cX11_shiftsOf 2 = .ok (.invokevirtual 315, 3) := dcw_182 (by decide +kernel)
theorem dX11_shiftsOf_5 : decode cX11_shiftsOf 5 = .ok (.aload_n 0, 1) := dc1_42 (by decide +kernel)
theorem dX11_shiftsOf_6 : decode cX11_shiftsOf 6 = .ok (.iload_n 1, 1) := dc1_27 (by decide +kernel)
theorem dX11_shiftsOf_7 : decode cX11_shiftsOf 7 = .ok (.invokevirtual 318, 3) := dcw_182 (by decide +kernel)
theorem dX11_shiftsOf_10 : decode cX11_shiftsOf 10 = .ok (.aload_n 0, 1) := dc1_42 (by decide +kernel)
theorem dX11_shiftsOf_11 : decode cX11_shiftsOf 11 = .ok (.iconst 3, 1) := dc1_6 (by decide +kernel)
theorem dX11_shiftsOf_12 : decode cX11_shiftsOf 12 = .ok (.iconst 0, 1) := dc1_3 (by decide +kernel)
theorem dX11_shiftsOf_13 : decode cX11_shiftsOf 13 = .ok (.invokevirtual 321, 3) := dcw_182 (by decide +kernel)
theorem dX11_shiftsOf_16 : decode cX11_shiftsOf 16 = .ok (.iconst 0, 1) := dc1_3 (by decide +kernel)
theorem dX11_shiftsOf_17 : decode cX11_shiftsOf 17 = .ok (.bipush 100, 2) := dcb_16 (n := 100) (by decide +kernel)
theorem dX11_shiftsOf_19 : decode cX11_shiftsOf 19 = .ok (.invokestatic 324, 3) := dcw_184 (by decide +kernel)
theorem dX11_shiftsOf_22 : decode cX11_shiftsOf 22 = .ok (.ireturn, 1) := dc1_172 (by decide +kernel)
theorem ggX11_doesBear_X11_oddsAt : GoodIn wsX11_doesBear wsX11_oddsAt := gi_sub (fun w h => List.mem_cons_of_mem _ (List.mem_append_left _ (List.mem_append_right _ (List.mem_append_left _ h)))) gd_wsX11_oddsAt
set_option maxRecDepth 20000 in
theorem gX11_doesBear_X11_oddsAt : GoodIn wsX11_doesBear (wsV RX11 297 RX11 yX11_oddsAt wsX11_oddsAt) := goodIn_app (goodIn_r _ [1, 2, 3, 4] (by decide +kernel) (by decide +kernel)) ggX11_doesBear_X11_oddsAt
theorem ggX11_doesBear_X11_needsOf : GoodIn wsX11_doesBear wsX11_needsOf := gi_sub (fun w h => List.mem_cons_of_mem _ (List.mem_append_left _ (List.mem_append_right _ (List.mem_append_right _ h)))) gd_wsX11_needsOf
set_option maxRecDepth 20000 in
theorem gX11_doesBear_X11_needsOf : GoodIn wsX11_doesBear (wsV RX11 327 RX11 yX11_needsOf wsX11_needsOf) := goodIn_app (goodIn_r _ [5, 6, 7, 4] (by decide +kernel) (by decide +kernel)) ggX11_doesBear_X11_needsOf
theorem dX11_doesBear_0 : decode cX11_doesBear 0 = .ok (.aload_n 0, 1) := dc1_42 (by decide +kernel)
theorem dX11_doesBear_1 : decode cX11_doesBear 1 = .ok (.iload_n 2, 1) := dc1_28 (by decide +kernel)
theorem dX11_doesBear_2 : decode cX11_doesBear 2 = .ok (.iload_n 3, 1) := dc1_29 (by decide +kernel)
theorem dX11_doesBear_3 : decode cX11_doesBear 3 = .ok (.invokevirtual 297, 3) := dcw_182 (by decide +kernel)
theorem dX11_doesBear_6 : decode cX11_doesBear 6 = .ok (.aload_n 0, 1) := dc1_42 (by decide +kernel)
theorem dX11_doesBear_7 : decode cX11_doesBear 7 = .ok (.iload_n 1, 1) := dc1_27 (by decide +kernel)
theorem dX11_doesBear_8 : decode cX11_doesBear 8 = .ok (.iload_n 2, 1) := dc1_28 (by decide +kernel)
theorem dX11_doesBear_9 : decode cX11_doesBear 9 = .ok (.iload_n 3, 1) := dc1_29 (by decide +kernel)
theorem dX11_doesBear_10 : decode cX11_doesBear 10 = .ok (.invokevirtual 327, 3) := dcw_182 (by decide +kernel)
theorem dX11_doesBear_13 : decode cX11_doesBear 13 = .ok (.if_icmp .lt 7, 3) := dcs_161 (n := 7) (by decide +kernel)
theorem dX11_doesBear_16 : decode cX11_doesBear 16 = .ok (.iconst 1, 1) := dc1_4 (by decide +kernel)
theorem dX11_doesBear_17 : decode cX11_doesBear 17 = .ok (.goto 4, 3) := dcs_167 (n := 4) (by decide +kernel)
theorem dX11_doesBear_20 : decode cX11_doesBear 20 = .ok (.iconst 0, 1) := dc1_3 (by decide +kernel)
theorem dX11_doesBear_21 : decode cX11_doesBear 21 = .ok (.ireturn, 1) := dc1_172 (by decide +kernel)
theorem ggX11_bearsBy_X11_thingAt : GoodIn wsX11_bearsBy wsX11_thingAt := gi_sub (fun w h => List.mem_cons_of_mem _ (List.mem_append_left _ (List.mem_append_right _ (List.mem_append_left _ h)))) gd_wsX11_thingAt
set_option maxRecDepth 20000 in
theorem gX11_bearsBy_X11_thingAt : GoodIn wsX11_bearsBy (wsV RX11 330 RX11 yX11_thingAt wsX11_thingAt) := goodIn_app (goodIn_r _ [3, 4, 5, 6] (by decide +kernel) (by decide +kernel)) ggX11_bearsBy_X11_thingAt
theorem ggX11_bearsBy_X11_doesBear : GoodIn wsX11_bearsBy wsX11_doesBear := gi_sub (fun w h => List.mem_cons_of_mem _ (List.mem_append_left _ (List.mem_append_right _ (List.mem_append_right _ h)))) gd_wsX11_doesBear
set_option maxRecDepth 20000 in
theorem gX11_bearsBy_X11_doesBear : GoodIn wsX11_bearsBy (wsV RX11 333 RX11 yX11_doesBear wsX11_doesBear) := goodIn_app (goodIn_r _ [7, 8, 9, 6] (by decide +kernel) (by decide +kernel)) ggX11_bearsBy_X11_doesBear
theorem dX11_bearsBy_0 : decode cX11_bearsBy 0 = .ok (.iconst 0, 1) := dc1_3 (by decide +kernel)
theorem dX11_bearsBy_1 : decode cX11_bearsBy 1 = .ok (.istore_n 3, 1) := dc1_62 (by decide +kernel)
theorem dX11_bearsBy_2 : decode cX11_bearsBy 2 = .ok (.iload_n 3, 1) := dc1_29 (by decide +kernel)
theorem dX11_bearsBy_3 : decode cX11_bearsBy 3 = .ok (.aload_n 0, 1) := dc1_42 (by decide +kernel)
theorem dX11_bearsBy_4 : decode cX11_bearsBy 4 = .ok (.getfield 40, 3) := dcw_180 (by decide +kernel)
theorem dX11_bearsBy_7 : decode cX11_bearsBy 7 = .ok (.aload_n 0, 1) := dc1_42 (by decide +kernel)
theorem dX11_bearsBy_8 : decode cX11_bearsBy 8 = .ok (.getfield 215, 3) := dcw_180 (by decide +kernel)
theorem dX11_bearsBy_11 : decode cX11_bearsBy 11 = .ok (.iaload, 1) := dc1_46 (by decide +kernel)
theorem dX11_bearsBy_12 : decode cX11_bearsBy 12 = .ok (.if_icmp .ge 24, 3) := dcs_162 (n := 24) (by decide +kernel)
theorem dX11_bearsBy_15 : decode cX11_bearsBy 15 = .ok (.aload_n 0, 1) := dc1_42 (by decide +kernel)
theorem dX11_bearsBy_16 : decode cX11_bearsBy 16 = .ok (.iload_n 1, 1) := dc1_27 (by decide +kernel)
theorem dX11_bearsBy_17 : decode cX11_bearsBy 17 = .ok (.iload_n 3, 1) := dc1_29 (by decide +kernel)
theorem dX11_bearsBy_18 : decode cX11_bearsBy 18 = .ok (.aload_n 0, 1) := dc1_42 (by decide +kernel)
theorem dX11_bearsBy_19 : decode cX11_bearsBy 19 = .ok (.iload_n 2, 1) := dc1_28 (by decide +kernel)
theorem dX11_bearsBy_20 : decode cX11_bearsBy 20 = .ok (.iload_n 3, 1) := dc1_29 (by decide +kernel)
theorem dX11_bearsBy_21 : decode cX11_bearsBy 21 = .ok (.invokevirtual 330, 3) := dcw_182 (by decide +kernel)
theorem dX11_bearsBy_24 : decode cX11_bearsBy 24 = .ok (.invokevirtual 333, 3) := dcw_182 (by decide +kernel)
theorem dX11_bearsBy_27 : decode cX11_bearsBy 27 = .ok (.ifCond .eq 9, 3) := dcs_153 (n := 9) (by decide +kernel)
theorem dX11_bearsBy_30 : decode cX11_bearsBy 30 = .ok (.iinc 3 1, 3) := dc_iinc (m := 1) (by decide +kernel)
theorem dX11_bearsBy_33 : decode cX11_bearsBy 33 = .ok (.goto (-31), 3) := dcs_167 (n := 65505) (by decide +kernel)
theorem dX11_bearsBy_36 : decode cX11_bearsBy 36 = .ok (.iload_n 3, 1) := dc1_29 (by decide +kernel)
theorem dX11_bearsBy_37 : decode cX11_bearsBy 37 = .ok (.ireturn, 1) := dc1_172 (by decide +kernel)
theorem ggX11_goesBy_X11_bearsBy : GoodIn wsX11_goesBy wsX11_bearsBy := gi_sub (fun w h => List.mem_cons_of_mem _ (List.mem_append_left _ (List.mem_append_right _ (List.mem_append_left _ h)))) gd_wsX11_bearsBy
set_option maxRecDepth 20000 in
theorem gX11_goesBy_X11_bearsBy : GoodIn wsX11_goesBy (wsV RX11 336 RX11 yX11_bearsBy wsX11_bearsBy) := goodIn_app (goodIn_r _ [4, 5, 6, 7] (by decide +kernel) (by decide +kernel)) ggX11_goesBy_X11_bearsBy
theorem ggX11_goesBy_X11_faresOf : GoodIn wsX11_goesBy wsX11_faresOf := gi_sub (fun w h => List.mem_cons_of_mem _ (List.mem_append_left _ (List.mem_append_right _ (List.mem_append_right _ (List.mem_append_left _ h))))) gd_wsX11_faresOf
set_option maxRecDepth 20000 in
theorem gX11_goesBy_X11_faresOf : GoodIn wsX11_goesBy (wsV RX11 339 RX11 yX11_faresOf wsX11_faresOf) := goodIn_app (goodIn_r _ [11, 12, 13, 7] (by decide +kernel) (by decide +kernel)) ggX11_goesBy_X11_faresOf
theorem ggX11_goesBy_X11_thingAt : GoodIn wsX11_goesBy wsX11_thingAt := gi_sub (fun w h => List.mem_cons_of_mem _ (List.mem_append_left _ (List.mem_append_right _ (List.mem_append_right _ (List.mem_append_right _ h))))) gd_wsX11_thingAt
set_option maxRecDepth 20000 in
theorem gX11_goesBy_X11_thingAt : GoodIn wsX11_goesBy (wsV RX11 330 RX11 yX11_thingAt wsX11_thingAt) := goodIn_app (goodIn_r _ [8, 9, 10, 7] (by decide +kernel) (by decide +kernel)) ggX11_goesBy_X11_thingAt
theorem dX11_goesBy_0 : decode cX11_goesBy 0 = .ok (.aload_n 0, 1) := dc1_42 (by decide +kernel)
theorem dX11_goesBy_1 : decode cX11_goesBy 1 = .ok (.iload_n 1, 1) := dc1_27 (by decide +kernel)
theorem dX11_goesBy_2 : decode cX11_goesBy 2 = .ok (.iload_n 2, 1) := dc1_28 (by decide +kernel)
theorem dX11_goesBy_3 : decode cX11_goesBy 3 = .ok (.invokevirtual 336, 3) := dcw_182 (by decide +kernel)
theorem dX11_goesBy_6 : decode cX11_goesBy 6 = .ok (.istore 4, 2) := dcu_54 (by decide +kernel)
theorem dX11_goesBy_8 : decode cX11_goesBy 8 = .ok (.aload_n 0, 1) := dc1_42 (by decide +kernel)
theorem dX11_goesBy_9 : decode cX11_goesBy 9 = .ok (.getfield 101, 3) := dcw_180 (by decide +kernel)
theorem dX11_goesBy_12 : decode cX11_goesBy 12 = .ok (.bipush 28, 2) := dcb_16 (n := 28) (by decide +kernel)
theorem dX11_goesBy_14 : decode cX11_goesBy 14 = .ok (.dup2, 1) := dc1_92 (by decide +kernel)
theorem dX11_goesBy_15 : decode cX11_goesBy 15 = .ok (.iaload, 1) := dc1_46 (by decide +kernel)
theorem dX11_goesBy_16 : decode cX11_goesBy 16 = .ok (.aload_n 0, 1) := dc1_42 (by decide +kernel)
theorem dX11_goesBy_17 : decode cX11_goesBy 17 = .ok (.iload_n 1, 1) := dc1_27 (by decide +kernel)
theorem dX11_goesBy_18 : decode cX11_goesBy 18 = .ok (.invokevirtual 339, 3) := dcw_182 (by decide +kernel)
theorem dX11_goesBy_21 : decode cX11_goesBy 21 = .ok (.iadd, 1) := dc1_96 (by decide +kernel)
theorem dX11_goesBy_22 : decode cX11_goesBy 22 = .ok (.iastore, 1) := dc1_79 (by decide +kernel)
theorem dX11_goesBy_23 : decode cX11_goesBy 23 = .ok (.aload_n 0, 1) := dc1_42 (by decide +kernel)
theorem dX11_goesBy_24 : decode cX11_goesBy 24 = .ok (.getfield 101, 3) := dcw_180 (by decide +kernel)
theorem dX11_goesBy_27 : decode cX11_goesBy 27 = .ok (.bipush 21, 2) := dcb_16 (n := 21) (by decide +kernel)
theorem dX11_goesBy_29 : decode cX11_goesBy 29 = .ok (.iload_n 1, 1) := dc1_27 (by decide +kernel)
theorem dX11_goesBy_30 : decode cX11_goesBy 30 = .ok (.iadd, 1) := dc1_96 (by decide +kernel)
theorem dX11_goesBy_31 : decode cX11_goesBy 31 = .ok (.dup2, 1) := dc1_92 (by decide +kernel)
theorem dX11_goesBy_32 : decode cX11_goesBy 32 = .ok (.iaload, 1) := dc1_46 (by decide +kernel)
theorem dX11_goesBy_33 : decode cX11_goesBy 33 = .ok (.iconst 1, 1) := dc1_4 (by decide +kernel)
theorem dX11_goesBy_34 : decode cX11_goesBy 34 = .ok (.iadd, 1) := dc1_96 (by decide +kernel)
theorem dX11_goesBy_35 : decode cX11_goesBy 35 = .ok (.iastore, 1) := dc1_79 (by decide +kernel)
theorem dX11_goesBy_36 : decode cX11_goesBy 36 = .ok (.iconst 0, 1) := dc1_3 (by decide +kernel)
theorem dX11_goesBy_37 : decode cX11_goesBy 37 = .ok (.istore 5, 2) := dcu_54 (by decide +kernel)
theorem dX11_goesBy_39 : decode cX11_goesBy 39 = .ok (.iload 5, 2) := dcu_21 (by decide +kernel)
theorem dX11_goesBy_41 : decode cX11_goesBy 41 = .ok (.aload_n 0, 1) := dc1_42 (by decide +kernel)
theorem dX11_goesBy_42 : decode cX11_goesBy 42 = .ok (.getfield 40, 3) := dcw_180 (by decide +kernel)
theorem dX11_goesBy_45 : decode cX11_goesBy 45 = .ok (.aload_n 0, 1) := dc1_42 (by decide +kernel)
theorem dX11_goesBy_46 : decode cX11_goesBy 46 = .ok (.getfield 215, 3) := dcw_180 (by decide +kernel)
theorem dX11_goesBy_49 : decode cX11_goesBy 49 = .ok (.iaload, 1) := dc1_46 (by decide +kernel)
theorem dX11_goesBy_50 : decode cX11_goesBy 50 = .ok (.if_icmp .ge 78, 3) := dcs_162 (n := 78) (by decide +kernel)
theorem dX11_goesBy_53 : decode cX11_goesBy 53 = .ok (.aload_n 0, 1) := dc1_42 (by decide +kernel)
theorem dX11_goesBy_54 : decode cX11_goesBy 54 = .ok (.iload_n 2, 1) := dc1_28 (by decide +kernel)
theorem dX11_goesBy_55 : decode cX11_goesBy 55 = .ok (.iload 5, 2) := dcu_21 (by decide +kernel)
theorem dX11_goesBy_57 : decode cX11_goesBy 57 = .ok (.invokevirtual 330, 3) := dcw_182 (by decide +kernel)
theorem dX11_goesBy_60 : decode cX11_goesBy 60 = .ok (.istore 6, 2) := dcu_54 (by decide +kernel)
theorem dX11_goesBy_62 : decode cX11_goesBy 62 = .ok (.iload 5, 2) := dcu_21 (by decide +kernel)
theorem dX11_goesBy_64 : decode cX11_goesBy 64 = .ok (.iload 4, 2) := dcu_21 (by decide +kernel)
theorem dX11_goesBy_66 : decode cX11_goesBy 66 = .ok (.if_icmp .ne 16, 3) := dcs_160 (n := 16) (by decide +kernel)
theorem dX11_goesBy_69 : decode cX11_goesBy 69 = .ok (.aload_n 0, 1) := dc1_42 (by decide +kernel)
theorem dX11_goesBy_70 : decode cX11_goesBy 70 = .ok (.getfield 101, 3) := dcw_180 (by decide +kernel)
theorem dX11_goesBy_73 : decode cX11_goesBy 73 = .ok (.bipush 15, 2) := dcb_16 (n := 15) (by decide +kernel)
theorem dX11_goesBy_75 : decode cX11_goesBy 75 = .ok (.iload_n 1, 1) := dc1_27 (by decide +kernel)
theorem dX11_goesBy_76 : decode cX11_goesBy 76 = .ok (.iadd, 1) := dc1_96 (by decide +kernel)
theorem dX11_goesBy_77 : decode cX11_goesBy 77 = .ok (.iconst 1, 1) := dc1_4 (by decide +kernel)
theorem dX11_goesBy_78 : decode cX11_goesBy 78 = .ok (.iastore, 1) := dc1_79 (by decide +kernel)
theorem dX11_goesBy_79 : decode cX11_goesBy 79 = .ok (.iload 5, 2) := dcu_21 (by decide +kernel)
theorem dX11_goesBy_81 : decode cX11_goesBy 81 = .ok (.ireturn, 1) := dc1_172 (by decide +kernel)
theorem dX11_goesBy_82 : decode cX11_goesBy 82 = .ok (.iload 6, 2) := dcu_21 (by decide +kernel)
theorem dX11_goesBy_84 : decode cX11_goesBy 84 = .ok (.aload_n 0, 1) := dc1_42 (by decide +kernel)
theorem dX11_goesBy_85 : decode cX11_goesBy 85 = .ok (.iload_n 3, 1) := dc1_29 (by decide +kernel)
theorem dX11_goesBy_86 : decode cX11_goesBy 86 = .ok (.iload 5, 2) := dcu_21 (by decide +kernel)
theorem dX11_goesBy_88 : decode cX11_goesBy 88 = .ok (.invokevirtual 330, 3) := dcw_182 (by decide +kernel)
theorem dX11_goesBy_91 : decode cX11_goesBy 91 = .ok (.if_icmp .eq 20, 3) := dcs_159 (n := 20) (by decide +kernel)
theorem dX11_goesBy_94 : decode cX11_goesBy 94 = .ok (.aload_n 0, 1) := dc1_42 (by decide +kernel)
theorem dX11_goesBy_95 : decode cX11_goesBy 95 = .ok (.getfield 101, 3) := dcw_180 (by decide +kernel)
theorem dX11_goesBy_98 : decode cX11_goesBy 98 = .ok (.iload 5, 2) := dcu_21 (by decide +kernel)
theorem dX11_goesBy_100 : decode cX11_goesBy 100 = .ok (.dup2, 1) := dc1_92 (by decide +kernel)
theorem dX11_goesBy_101 : decode cX11_goesBy 101 = .ok (.iaload, 1) := dc1_46 (by decide +kernel)
theorem dX11_goesBy_102 : decode cX11_goesBy 102 = .ok (.iconst 1, 1) := dc1_4 (by decide +kernel)
theorem dX11_goesBy_103 : decode cX11_goesBy 103 = .ok (.iload 6, 2) := dcu_21 (by decide +kernel)
theorem dX11_goesBy_105 : decode cX11_goesBy 105 = .ok (.ishl, 1) := dc1_120 (by decide +kernel)
theorem dX11_goesBy_106 : decode cX11_goesBy 106 = .ok (.ior, 1) := dc1_128 (by decide +kernel)
theorem dX11_goesBy_107 : decode cX11_goesBy 107 = .ok (.iastore, 1) := dc1_79 (by decide +kernel)
theorem dX11_goesBy_108 : decode cX11_goesBy 108 = .ok (.iload 5, 2) := dcu_21 (by decide +kernel)
theorem dX11_goesBy_110 : decode cX11_goesBy 110 = .ok (.ireturn, 1) := dc1_172 (by decide +kernel)
theorem dX11_goesBy_111 : decode cX11_goesBy 111 = .ok (.aload_n 0, 1) := dc1_42 (by decide +kernel)
theorem dX11_goesBy_112 : decode cX11_goesBy 112 = .ok (.getfield 101, 3) := dcw_180 (by decide +kernel)
theorem dX11_goesBy_115 : decode cX11_goesBy 115 = .ok (.iconst 5, 1) := dc1_8 (by decide +kernel)
theorem dX11_goesBy_116 : decode cX11_goesBy 116 = .ok (.iload 5, 2) := dcu_21 (by decide +kernel)
theorem dX11_goesBy_118 : decode cX11_goesBy 118 = .ok (.iadd, 1) := dc1_96 (by decide +kernel)
theorem dX11_goesBy_119 : decode cX11_goesBy 119 = .ok (.iload 6, 2) := dcu_21 (by decide +kernel)
theorem dX11_goesBy_121 : decode cX11_goesBy 121 = .ok (.iastore, 1) := dc1_79 (by decide +kernel)
theorem dX11_goesBy_122 : decode cX11_goesBy 122 = .ok (.iinc 5 1, 3) := dc_iinc (m := 1) (by decide +kernel)
theorem dX11_goesBy_125 : decode cX11_goesBy 125 = .ok (.goto (-86), 3) := dcs_167 (n := 65450) (by decide +kernel)
theorem dX11_goesBy_128 : decode cX11_goesBy 128 = .ok (.aload_n 0, 1) := dc1_42 (by decide +kernel)
theorem dX11_goesBy_129 : decode cX11_goesBy 129 = .ok (.getfield 101, 3) := dcw_180 (by decide +kernel)
theorem dX11_goesBy_132 : decode cX11_goesBy 132 = .ok (.bipush 15, 2) := dcb_16 (n := 15) (by decide +kernel)
theorem dX11_goesBy_134 : decode cX11_goesBy 134 = .ok (.iload_n 1, 1) := dc1_27 (by decide +kernel)
theorem dX11_goesBy_135 : decode cX11_goesBy 135 = .ok (.iadd, 1) := dc1_96 (by decide +kernel)
theorem dX11_goesBy_136 : decode cX11_goesBy 136 = .ok (.iconst 2, 1) := dc1_5 (by decide +kernel)
theorem dX11_goesBy_137 : decode cX11_goesBy 137 = .ok (.iastore, 1) := dc1_79 (by decide +kernel)
theorem dX11_goesBy_138 : decode cX11_goesBy 138 = .ok (.aload_n 0, 1) := dc1_42 (by decide +kernel)
theorem dX11_goesBy_139 : decode cX11_goesBy 139 = .ok (.getfield 40, 3) := dcw_180 (by decide +kernel)
theorem dX11_goesBy_142 : decode cX11_goesBy 142 = .ok (.aload_n 0, 1) := dc1_42 (by decide +kernel)
theorem dX11_goesBy_143 : decode cX11_goesBy 143 = .ok (.getfield 215, 3) := dcw_180 (by decide +kernel)
theorem dX11_goesBy_146 : decode cX11_goesBy 146 = .ok (.iaload, 1) := dc1_46 (by decide +kernel)
theorem dX11_goesBy_147 : decode cX11_goesBy 147 = .ok (.ireturn, 1) := dc1_172 (by decide +kernel)
theorem ggX11_yearGoes_X11_lotOf : GoodIn wsX11_yearGoes wsX11_lotOf := gi_sub (fun w h => List.mem_cons_of_mem _ (List.mem_append_left _ (List.mem_append_right _ (List.mem_append_left _ h)))) gd_wsX11_lotOf
set_option maxRecDepth 20000 in
theorem gX11_yearGoes_X11_lotOf : GoodIn wsX11_yearGoes (wsV RX11 300 RX11 yX11_lotOf wsX11_lotOf) := goodIn_app (goodIn_r _ [6, 7, 8, 9] (by decide +kernel) (by decide +kernel)) ggX11_yearGoes_X11_lotOf
theorem ggX11_yearGoes_X11_shiftsOf : GoodIn wsX11_yearGoes wsX11_shiftsOf := gi_sub (fun w h => List.mem_cons_of_mem _ (List.mem_append_left _ (List.mem_append_right _ (List.mem_append_right _ h)))) gd_wsX11_shiftsOf
set_option maxRecDepth 20000 in
theorem gX11_yearGoes_X11_shiftsOf : GoodIn wsX11_yearGoes (wsV RX11 343 RX11 yX11_shiftsOf wsX11_shiftsOf) := goodIn_app (goodIn_r _ [10, 11, 12, 9] (by decide +kernel) (by decide +kernel)) ggX11_yearGoes_X11_shiftsOf
theorem dX11_yearGoes_0 : decode cX11_yearGoes 0 = .ok (.iconst 0, 1) := dc1_3 (by decide +kernel)
theorem dX11_yearGoes_1 : decode cX11_yearGoes 1 = .ok (.istore_n 1, 1) := dc1_60 (by decide +kernel)
theorem dX11_yearGoes_2 : decode cX11_yearGoes 2 = .ok (.iload_n 1, 1) := dc1_27 (by decide +kernel)
theorem dX11_yearGoes_3 : decode cX11_yearGoes 3 = .ok (.aload_n 0, 1) := dc1_42 (by decide +kernel)
theorem dX11_yearGoes_4 : decode cX11_yearGoes 4 = .ok (.getfield 40, 3) := dcw_180 (by decide +kernel)
theorem dX11_yearGoes_7 : decode cX11_yearGoes 7 = .ok (.aload_n 0, 1) := dc1_42 (by decide +kernel)
theorem dX11_yearGoes_8 : decode cX11_yearGoes 8 = .ok (.getfield 215, 3) := dcw_180 (by decide +kernel)
theorem dX11_yearGoes_11 : decode cX11_yearGoes 11 = .ok (.iaload, 1) := dc1_46 (by decide +kernel)
theorem dX11_yearGoes_12 : decode cX11_yearGoes 12 = .ok (.if_icmp .ge 50, 3) := dcs_162 (n := 50) (by decide +kernel)
theorem dX11_yearGoes_15 : decode cX11_yearGoes 15 = .ok (.aload_n 0, 1) := dc1_42 (by decide +kernel)
theorem dX11_yearGoes_16 : decode cX11_yearGoes 16 = .ok (.getfield 107, 3) := dcw_180 (by decide +kernel)
theorem dX11_yearGoes_19 : decode cX11_yearGoes 19 = .ok (.iload_n 1, 1) := dc1_27 (by decide +kernel)
theorem dX11_yearGoes_20 : decode cX11_yearGoes 20 = .ok (.aload_n 0, 1) := dc1_42 (by decide +kernel)
theorem dX11_yearGoes_21 : decode cX11_yearGoes 21 = .ok (.bipush 8, 2) := dcb_16 (n := 8) (by decide +kernel)
theorem dX11_yearGoes_23 : decode cX11_yearGoes 23 = .ok (.aload_n 0, 1) := dc1_42 (by decide +kernel)
theorem dX11_yearGoes_24 : decode cX11_yearGoes 24 = .ok (.getfield 101, 3) := dcw_180 (by decide +kernel)
theorem dX11_yearGoes_27 : decode cX11_yearGoes 27 = .ok (.bipush 27, 2) := dcb_16 (n := 27) (by decide +kernel)
theorem dX11_yearGoes_29 : decode cX11_yearGoes 29 = .ok (.iaload, 1) := dc1_46 (by decide +kernel)
theorem dX11_yearGoes_30 : decode cX11_yearGoes 30 = .ok (.imul, 1) := dc1_104 (by decide +kernel)
theorem dX11_yearGoes_31 : decode cX11_yearGoes 31 = .ok (.ldc_w 342, 3) := dcw_19 (by decide +kernel)
theorem dX11_yearGoes_34 : decode cX11_yearGoes 34 = .ok (.iadd, 1) := dc1_96 (by decide +kernel)
theorem dX11_yearGoes_35 : decode cX11_yearGoes 35 = .ok (.iload_n 1, 1) := dc1_27 (by decide +kernel)
theorem dX11_yearGoes_36 : decode cX11_yearGoes 36 = .ok (.iadd, 1) := dc1_96 (by decide +kernel)
theorem dX11_yearGoes_37 : decode cX11_yearGoes 37 = .ok (.bipush 100, 2) := dcb_16 (n := 100) (by decide +kernel)
theorem dX11_yearGoes_39 : decode cX11_yearGoes 39 = .ok (.invokevirtual 300, 3) := dcw_182 (by decide +kernel)
theorem dX11_yearGoes_42 : decode cX11_yearGoes 42 = .ok (.aload_n 0, 1) := dc1_42 (by decide +kernel)
theorem dX11_yearGoes_43 : decode cX11_yearGoes 43 = .ok (.iload_n 1, 1) := dc1_27 (by decide +kernel)
theorem dX11_yearGoes_44 : decode cX11_yearGoes 44 = .ok (.invokevirtual 343, 3) := dcw_182 (by decide +kernel)
theorem dX11_yearGoes_47 : decode cX11_yearGoes 47 = .ok (.if_icmp .ge 7, 3) := dcs_162 (n := 7) (by decide +kernel)
theorem dX11_yearGoes_50 : decode cX11_yearGoes 50 = .ok (.iconst 1, 1) := dc1_4 (by decide +kernel)
theorem dX11_yearGoes_51 : decode cX11_yearGoes 51 = .ok (.goto 4, 3) := dcs_167 (n := 4) (by decide +kernel)
theorem dX11_yearGoes_54 : decode cX11_yearGoes 54 = .ok (.iconst 0, 1) := dc1_3 (by decide +kernel)
theorem dX11_yearGoes_55 : decode cX11_yearGoes 55 = .ok (.bastore, 1) := dc1_84 (by decide +kernel)
theorem dX11_yearGoes_56 : decode cX11_yearGoes 56 = .ok (.iinc 1 1, 3) := dc_iinc (m := 1) (by decide +kernel)
theorem dX11_yearGoes_59 : decode cX11_yearGoes 59 = .ok (.goto (-57), 3) := dcs_167 (n := 65479) (by decide +kernel)
theorem dX11_yearGoes_62 : decode cX11_yearGoes 62 = .ok (.iconst 0, 1) := dc1_3 (by decide +kernel)
theorem dX11_yearGoes_63 : decode cX11_yearGoes 63 = .ok (.istore_n 1, 1) := dc1_60 (by decide +kernel)
theorem dX11_yearGoes_64 : decode cX11_yearGoes 64 = .ok (.iload_n 1, 1) := dc1_27 (by decide +kernel)
theorem dX11_yearGoes_65 : decode cX11_yearGoes 65 = .ok (.aload_n 0, 1) := dc1_42 (by decide +kernel)
theorem dX11_yearGoes_66 : decode cX11_yearGoes 66 = .ok (.getfield 40, 3) := dcw_180 (by decide +kernel)
theorem dX11_yearGoes_69 : decode cX11_yearGoes 69 = .ok (.aload_n 0, 1) := dc1_42 (by decide +kernel)
theorem dX11_yearGoes_70 : decode cX11_yearGoes 70 = .ok (.getfield 215, 3) := dcw_180 (by decide +kernel)
theorem dX11_yearGoes_73 : decode cX11_yearGoes 73 = .ok (.iaload, 1) := dc1_46 (by decide +kernel)
theorem dX11_yearGoes_74 : decode cX11_yearGoes 74 = .ok (.if_icmp .ge 51, 3) := dcs_162 (n := 51) (by decide +kernel)
theorem dX11_yearGoes_77 : decode cX11_yearGoes 77 = .ok (.aload_n 0, 1) := dc1_42 (by decide +kernel)
theorem dX11_yearGoes_78 : decode cX11_yearGoes 78 = .ok (.getfield 107, 3) := dcw_180 (by decide +kernel)
theorem dX11_yearGoes_81 : decode cX11_yearGoes 81 = .ok (.iload_n 1, 1) := dc1_27 (by decide +kernel)
theorem dX11_yearGoes_82 : decode cX11_yearGoes 82 = .ok (.baload, 1) := dc1_51 (by decide +kernel)
theorem dX11_yearGoes_83 : decode cX11_yearGoes 83 = .ok (.ifCond .ne 6, 3) := dcs_154 (n := 6) (by decide +kernel)
theorem dX11_yearGoes_86 : decode cX11_yearGoes 86 = .ok (.goto 33, 3) := dcs_167 (n := 33) (by decide +kernel)
theorem dX11_yearGoes_89 : decode cX11_yearGoes 89 = .ok (.aload_n 0, 1) := dc1_42 (by decide +kernel)
theorem dX11_yearGoes_90 : decode cX11_yearGoes 90 = .ok (.getfield 101, 3) := dcw_180 (by decide +kernel)
theorem dX11_yearGoes_93 : decode cX11_yearGoes 93 = .ok (.iload_n 1, 1) := dc1_27 (by decide +kernel)
theorem dX11_yearGoes_94 : decode cX11_yearGoes 94 = .ok (.iconst 0, 1) := dc1_3 (by decide +kernel)
theorem dX11_yearGoes_95 : decode cX11_yearGoes 95 = .ok (.iastore, 1) := dc1_79 (by decide +kernel)
theorem dX11_yearGoes_96 : decode cX11_yearGoes 96 = .ok (.aload_n 0, 1) := dc1_42 (by decide +kernel)
theorem dX11_yearGoes_97 : decode cX11_yearGoes 97 = .ok (.getfield 101, 3) := dcw_180 (by decide +kernel)
theorem dX11_yearGoes_100 : decode cX11_yearGoes 100 = .ok (.iconst 5, 1) := dc1_8 (by decide +kernel)
theorem dX11_yearGoes_101 : decode cX11_yearGoes 101 = .ok (.iload_n 1, 1) := dc1_27 (by decide +kernel)
theorem dX11_yearGoes_102 : decode cX11_yearGoes 102 = .ok (.iadd, 1) := dc1_96 (by decide +kernel)
theorem dX11_yearGoes_103 : decode cX11_yearGoes 103 = .ok (.bipush (-2), 2) := dcb_16 (n := 254) (by decide +kernel)
theorem dX11_yearGoes_105 : decode cX11_yearGoes 105 = .ok (.iastore, 1) := dc1_79 (by decide +kernel)
theorem dX11_yearGoes_106 : decode cX11_yearGoes 106 = .ok (.aload_n 0, 1) := dc1_42 (by decide +kernel)
theorem dX11_yearGoes_107 : decode cX11_yearGoes 107 = .ok (.getfield 101, 3) := dcw_180 (by decide +kernel)
theorem dX11_yearGoes_110 : decode cX11_yearGoes 110 = .ok (.bipush 10, 2) := dcb_16 (n := 10) (by decide +kernel)
theorem dX11_yearGoes_112 : decode cX11_yearGoes 112 = .ok (.iload_n 1, 1) := dc1_27 (by decide +kernel)
theorem dX11_yearGoes_113 : decode cX11_yearGoes 113 = .ok (.iadd, 1) := dc1_96 (by decide +kernel)
theorem dX11_yearGoes_114 : decode cX11_yearGoes 114 = .ok (.dup2, 1) := dc1_92 (by decide +kernel)
theorem dX11_yearGoes_115 : decode cX11_yearGoes 115 = .ok (.iaload, 1) := dc1_46 (by decide +kernel)
theorem dX11_yearGoes_116 : decode cX11_yearGoes 116 = .ok (.iconst 1, 1) := dc1_4 (by decide +kernel)
theorem dX11_yearGoes_117 : decode cX11_yearGoes 117 = .ok (.iadd, 1) := dc1_96 (by decide +kernel)
theorem dX11_yearGoes_118 : decode cX11_yearGoes 118 = .ok (.iastore, 1) := dc1_79 (by decide +kernel)
theorem dX11_yearGoes_119 : decode cX11_yearGoes 119 = .ok (.iinc 1 1, 3) := dc_iinc (m := 1) (by decide +kernel)
theorem dX11_yearGoes_122 : decode cX11_yearGoes 122 = .ok (.goto (-58), 3) := dcs_167 (n := 65478) (by decide +kernel)
theorem dX11_yearGoes_125 : decode cX11_yearGoes 125 = .ok (.aload_n 0, 1) := dc1_42 (by decide +kernel)
theorem dX11_yearGoes_126 : decode cX11_yearGoes 126 = .ok (.getfield 101, 3) := dcw_180 (by decide +kernel)
theorem dX11_yearGoes_129 : decode cX11_yearGoes 129 = .ok (.bipush 27, 2) := dcb_16 (n := 27) (by decide +kernel)
theorem dX11_yearGoes_131 : decode cX11_yearGoes 131 = .ok (.dup2, 1) := dc1_92 (by decide +kernel)
theorem dX11_yearGoes_132 : decode cX11_yearGoes 132 = .ok (.iaload, 1) := dc1_46 (by decide +kernel)
theorem dX11_yearGoes_133 : decode cX11_yearGoes 133 = .ok (.iconst 1, 1) := dc1_4 (by decide +kernel)
theorem dX11_yearGoes_134 : decode cX11_yearGoes 134 = .ok (.iadd, 1) := dc1_96 (by decide +kernel)
theorem dX11_yearGoes_135 : decode cX11_yearGoes 135 = .ok (.iastore, 1) := dc1_79 (by decide +kernel)
theorem dX11_yearGoes_136 : decode cX11_yearGoes 136 = .ok (.return_, 1) := dc1_177 (by decide +kernel)
theorem LX11_looks_101 : Cond.fieldLink RX11 101 "GuessFerryModel" "row" "[I" ∈ wsX11_looks := (List.mem_cons_of_mem _ (List.mem_append_left _ (List.mem_of_getElem? (i := 1) rfl)))
theorem LX11_looks_215 : Cond.fieldLink RX11 215 "GuessFerryModel" "live" "I" ∈ wsX11_looks := (List.mem_cons_of_mem _ (List.mem_append_left _ (List.mem_of_getElem? (i := 3) rfl)))
theorem LX11_looks_52 : Cond.fieldLink RX11 52 "GuessFerryModel" "heavyOf" "[I" ∈ wsX11_looks := (List.mem_cons_of_mem _ (List.mem_append_left _ (List.mem_of_getElem? (i := 2) rfl)))
theorem LX11_looks_55 : Cond.fieldLink RX11 55 "GuessFerryModel" "nerveOf" "[I" ∈ wsX11_looks := (List.mem_cons_of_mem _ (List.mem_append_left _ (List.mem_of_getElem? (i := 4) rfl)))
theorem LX11_looks_92 : Cond.fieldLink RX11 92 "GuessFerryModel" "variables" "[I" ∈ wsX11_looks := (List.mem_cons_of_mem _ (List.mem_append_left _ (List.mem_of_getElem? (i := 0) rfl)))
theorem inX11_looks_X11 : ∀ w ∈ u_ws RX11 TX11 58, w ∈ wsX11_looks := fun _ h => List.mem_cons_of_mem _ (List.mem_append_right _ h)
set_option maxHeartbeats 4000000 in
set_option maxRecDepth 100000 in
theorem br_looks_2 {l : Launch} {dC : Nat → ClassId} {dI : Nat → Nat → Nat} {cB cI cJ cZ cS : ClassId} {h : Nat} {a : Nat → Nat} {as : List Value} {s' : RS} {k2 : RS → Int32 → Int32 → Option RS} (hk2 : ∀ (s : RS) (x1 : Int32) (x2 : Int32), k2 s x1 x2 = some s' → BlkV l yX11_looks wsX11_looks ({ frames := 0, cells := 0, slots := 0, locals := 0 }) cX11_looks 3 none (dC, dI) (tysA cB cI cJ cZ cS) as 2 (mwS cB cI cJ cZ h a s) [(0, .ref h), (1, .int x1), (2, .int x2)] [] (fun u => u = (mwS cB cI cJ cZ h a s'))) (s : RS) (x1 : Int32) (x2 : Int32) (hB : r_looks_2 k2 s x1 x2 = some s') : BlkV l yX11_looks wsX11_looks ({ frames := 0, cells := 0, slots := 0, locals := 0 }) cX11_looks 3 none (dC, dI) (tysA cB cI cJ cZ cS) as 2 (mwS cB cI cJ cZ h a s) [(0, .ref h), (1, .int x1), (2, .int x2)] [] (fun u => u = (mwS cB cI cJ cZ h a s')) := by
  intro p e s0 m below meth c A E H locs ls hP hD hS hl
  obtain ⟨C, hr, hlocks, hA, hK, hN⟩ := id E
  obtain ⟨hx, hb, hml, hown, hts⟩ := id C
  unfold r_looks_2 at hB
  refine lv_iload_n hx hb dX11_looks_2 rfl (lv_at hl 2 rfl) ?_
  refine lv_bipush (v := 9) hx hb dX11_looks_3 (by decide) ?_
  refine lv_icmp_ge (tgt := 21) hx hb dX11_looks_5 (by decide) (fun c1 => ?_) (fun c1 => ?_)
  · have hB := if_p hB c1
    refine lv_aload_n hx hb dX11_looks_21 rfl (lv_at hl 0 rfl) ?_
    refine q_get (v := .ref (a 40)) C inX11_looks_X11 hK hP 0 rfl rfl 40 (by decide) rfl LX11_looks_92 rfl dX11_looks_22 ?_
    refine lv_iconst (v := 5) hx hb dX11_looks_25 (by decide) ?_
    refine lv_aload_n hx hb dX11_looks_26 rfl (lv_at hl 0 rfl) ?_
    refine q_get (v := .ref (a 44)) C inX11_looks_X11 hK hP 0 rfl rfl 44 (by decide) rfl LX11_looks_101 rfl dX11_looks_27 ?_
    refine lv_bipush (v := 27) hx hb dX11_looks_30 (by decide) ?_
    refine q_iald (x := (s.f 44 27)) C hK hP 28 1 rfl rfl (vp_lit (by decide +kernel)) dX11_looks_32 rfl ?_
    obtain ⟨s2, hs3, hB⟩ := letS_inv hB
    refine q_iast (f2 := (upd (s.f 40) 5 (s.f 44 27))) (w2 := (mwS cB cI cJ cZ h a s2)) C hK hP hD hS 25 1 rfl rfl (vp_lit (by decide +kernel)) dX11_looks_33 rfl (mwS_f40 hs3) (fun H locs hP hD hS => ?_)
    refine lv_iload_n hx hb dX11_looks_34 rfl (lv_at hl 1 rfl) ?_
    refine lv_if_ge (tgt := 39) hx hb dX11_looks_35 (by decide) (fun c4 => ?_) (fun c4 => ?_)
    · have hB := if_p hB c4
      refine lv_aload_n hx hb dX11_looks_39 rfl (lv_at hl 0 rfl) ?_
      refine q_get (v := .ref (a 40)) C inX11_looks_X11 hK hP 0 rfl rfl 40 (by decide) rfl LX11_looks_92 rfl dX11_looks_40 ?_
      refine lv_iconst (v := 2) hx hb dX11_looks_43 (by decide) ?_
      refine lv_aload_n hx hb dX11_looks_44 rfl (lv_at hl 0 rfl) ?_
      refine q_get (v := .ref (a 24)) C inX11_looks_X11 hK hP 0 rfl rfl 24 (by decide) rfl LX11_looks_52 rfl dX11_looks_45 ?_
      refine lv_bipush (v := 6) hx hb dX11_looks_48 (by decide) ?_
      refine lv_aload_n hx hb dX11_looks_50 rfl (lv_at hl 0 rfl) ?_
      refine q_get (v := .int (s2.v 18)) C inX11_looks_X11 hK hP 0 rfl rfl 18 (by decide) rfl LX11_looks_215 rfl dX11_looks_51 ?_
      refine lv_imul hx hb dX11_looks_54 ?_
      refine lv_iload_n hx hb dX11_looks_55 rfl (lv_at hl 1 rfl) ?_
      refine lv_iadd hx hb dX11_looks_56 ?_
      obtain ⟨g5, hB⟩ := guard_inv hB
      refine q_iald (x := (s2.f 24 (Int32.toNatClampNeg ((6 * (s2.v 18)) + x1)))) C hK hP 12 1 rfl rfl (vpb_in g5) dX11_looks_57 rfl ?_
      obtain ⟨s6, hs7, hB⟩ := letS_inv hB
      refine q_iast (f2 := (upd (s2.f 40) 2 (s2.f 24 (Int32.toNatClampNeg ((6 * (s2.v 18)) + x1))))) (w2 := (mwS cB cI cJ cZ h a s6)) C hK hP hD hS 25 1 rfl rfl (vp_lit (by decide +kernel)) dX11_looks_58 rfl (mwS_f40 hs7) (fun H locs hP hD hS => ?_)
      refine lv_aload_n hx hb dX11_looks_59 rfl (lv_at hl 0 rfl) ?_
      refine q_get (v := .ref (a 40)) C inX11_looks_X11 hK hP 0 rfl rfl 40 (by decide) rfl LX11_looks_92 rfl dX11_looks_60 ?_
      refine lv_iconst (v := 3) hx hb dX11_looks_63 (by decide) ?_
      refine lv_aload_n hx hb dX11_looks_64 rfl (lv_at hl 0 rfl) ?_
      refine q_get (v := .ref (a 25)) C inX11_looks_X11 hK hP 0 rfl rfl 25 (by decide) rfl LX11_looks_55 rfl dX11_looks_65 ?_
      refine lv_bipush (v := 6) hx hb dX11_looks_68 (by decide) ?_
      refine lv_aload_n hx hb dX11_looks_70 rfl (lv_at hl 0 rfl) ?_
      refine q_get (v := .int (s6.v 18)) C inX11_looks_X11 hK hP 0 rfl rfl 18 (by decide) rfl LX11_looks_215 rfl dX11_looks_71 ?_
      refine lv_imul hx hb dX11_looks_74 ?_
      refine lv_iload_n hx hb dX11_looks_75 rfl (lv_at hl 1 rfl) ?_
      refine lv_iadd hx hb dX11_looks_76 ?_
      obtain ⟨g8, hB⟩ := guard_inv hB
      refine q_iald (x := (s6.f 25 (Int32.toNatClampNeg ((6 * (s6.v 18)) + x1)))) C hK hP 13 1 rfl rfl (vpb_in g8) dX11_looks_77 rfl ?_
      obtain ⟨s9, hs10, hB⟩ := letS_inv hB
      refine q_iast (f2 := (upd (s6.f 40) 3 (s6.f 25 (Int32.toNatClampNeg ((6 * (s6.v 18)) + x1))))) (w2 := (mwS cB cI cJ cZ h a s9)) C hK hP hD hS 25 1 rfl rfl (vp_lit (by decide +kernel)) dX11_looks_78 rfl (mwS_f40 hs10) (fun H locs hP hD hS => ?_)
      refine lv_aload_n hx hb dX11_looks_79 rfl (lv_at hl 0 rfl) ?_
      refine q_get (v := .ref (a 40)) C inX11_looks_X11 hK hP 0 rfl rfl 40 (by decide) rfl LX11_looks_92 rfl dX11_looks_80 ?_
      refine lv_bipush (v := 6) hx hb dX11_looks_83 (by decide) ?_
      refine lv_iload_n hx hb dX11_looks_85 rfl (lv_at hl 1 rfl) ?_
      obtain ⟨s11, hs12, hB⟩ := letS_inv hB
      refine q_iast (f2 := (upd (s9.f 40) 6 x1)) (w2 := (mwS cB cI cJ cZ h a s11)) C hK hP hD hS 25 1 rfl rfl (vp_lit (by decide +kernel)) dX11_looks_86 rfl (mwS_f40 hs12) (fun H locs hP hD hS => ?_)
      refine lv_aload_n hx hb dX11_looks_87 rfl (lv_at hl 0 rfl) ?_
      refine q_get (v := .ref (a 40)) C inX11_looks_X11 hK hP 0 rfl rfl 40 (by decide) rfl LX11_looks_92 rfl dX11_looks_88 ?_
      refine lv_bipush (v := 8) hx hb dX11_looks_91 (by decide) ?_
      refine lv_aload_n hx hb dX11_looks_93 rfl (lv_at hl 0 rfl) ?_
      refine q_get (v := .ref (a 44)) C inX11_looks_X11 hK hP 0 rfl rfl 44 (by decide) rfl LX11_looks_101 rfl dX11_looks_94 ?_
      refine lv_bipush (v := 21) hx hb dX11_looks_97 (by decide) ?_
      refine lv_iload_n hx hb dX11_looks_99 rfl (lv_at hl 1 rfl) ?_
      refine lv_iadd hx hb dX11_looks_100 ?_
      obtain ⟨g13, hB⟩ := guard_inv hB
      refine q_iald (x := (s11.f 44 (Int32.toNatClampNeg (21 + x1)))) C hK hP 28 1 rfl rfl (vpb_in g13) dX11_looks_101 rfl ?_
      obtain ⟨s14, hs15, hB⟩ := letS_inv hB
      refine q_iast (f2 := (upd (s11.f 40) 8 (s11.f 44 (Int32.toNatClampNeg (21 + x1))))) (w2 := (mwS cB cI cJ cZ h a s14)) C hK hP hD hS 25 1 rfl rfl (vp_lit (by decide +kernel)) dX11_looks_102 rfl (mwS_f40 hs15) (fun H locs hP hD hS => ?_)
      exact q_vret C hr hlocks hK hP hD hS (Nat.le_of_ble_eq_true rfl) (Nat.le_of_ble_eq_true rfl) dX11_looks_103 (by cases hB; rfl)
    · have hB := if_n hB c4
      exact q_vret C hr hlocks hK hP hD hS (Nat.le_of_ble_eq_true rfl) (Nat.le_of_ble_eq_true rfl) dX11_looks_38 (by cases hB; rfl)
  · have hB := if_n hB c1
    refine lv_aload_n hx hb dX11_looks_8 rfl (lv_at hl 0 rfl) ?_
    refine q_get (v := .ref (a 40)) C inX11_looks_X11 hK hP 0 rfl rfl 40 (by decide) rfl LX11_looks_92 rfl dX11_looks_9 ?_
    refine lv_iload_n hx hb dX11_looks_12 rfl (lv_at hl 2 rfl) ?_
    refine lv_iconst (v := 0) hx hb dX11_looks_13 (by decide) ?_
    obtain ⟨g16, hB⟩ := guard_inv hB
    obtain ⟨s17, hs18, hB⟩ := letS_inv hB
    refine q_iast (f2 := (upd (s.f 40) (Int32.toNatClampNeg x2) 0)) (w2 := (mwS cB cI cJ cZ h a s17)) C hK hP hD hS 25 1 rfl rfl (vpb_in g16) dX11_looks_14 rfl (mwS_f40 hs18) (fun H locs hP hD hS => ?_)
    refine lv_iinc (v := (x2 + 1)) (lv' := [(2, .int (x2 + 1)), (0, .ref h), (1, .int x1)]) hx hb dX11_looks_15 hl (k := 2) rfl (rfl) (by decide) rfl (fun ls hl => ?_)
    refine lv_goto (tgt := 2) hx hb dX11_looks_18 (by decide) ?_
    exact hk2 _ _ _ hB p e s0 m below meth c A E H locs ls hP hD hS (lv_sub hl [1, 2, 0] rfl)
theorem br_looks_2L {l : Launch} {dC : Nat → ClassId} {dI : Nat → Nat → Nat} {cB cI cJ cZ cS : ClassId} {h : Nat} {a : Nat → Nat} {as : List Value} {s' : RS} : ∀ (n : Nat) (s : RS) (x1 : Int32) (x2 : Int32), r_looks_2L n s x1 x2 = some s' → BlkV l yX11_looks wsX11_looks ({ frames := 0, cells := 0, slots := 0, locals := 0 }) cX11_looks 3 none (dC, dI) (tysA cB cI cJ cZ cS) as 2 (mwS cB cI cJ cZ h a s) [(0, .ref h), (1, .int x1), (2, .int x2)] [] (fun u => u = (mwS cB cI cJ cZ h a s')) := by
  intro n
  induction n with
  | zero => intro s x1 x2 hB; exact none_ne hB
  | succ n ih => intro s x1 x2 hB; exact br_looks_2 ih _ _ _ hB
set_option maxHeartbeats 4000000 in
set_option maxRecDepth 100000 in
theorem br_looks {l : Launch} {dC : Nat → ClassId} {dI : Nat → Nat → Nat} {cB cI cJ cZ cS : ClassId} {h : Nat} {a : Nat → Nat} {as : List Value} {s' : RS} (s : RS) (x1 : Int32) (hB : r_looks s x1 = some s') : BlkV l yX11_looks wsX11_looks ({ frames := 0, cells := 0, slots := 0, locals := 0 }) cX11_looks 3 none (dC, dI) (tysA cB cI cJ cZ cS) as 0 (mwS cB cI cJ cZ h a s) [(0, .ref h), (1, .int x1)] [] (fun u => u = (mwS cB cI cJ cZ h a s')) := by
  intro p e s0 m below meth c A E H locs ls hP hD hS hl
  obtain ⟨C, hr, hlocks, hA, hK, hN⟩ := id E
  obtain ⟨hx, hb, hml, hown, hts⟩ := id C
  unfold r_looks at hB
  refine lv_iconst (v := 0) hx hb dX11_looks_0 (by decide) ?_
  refine lv_istore_n (lv' := [(2, .int 0), (0, .ref h), (1, .int x1)]) hx hb dX11_looks_1 rfl hl (by decide) rfl (fun ls hl => ?_)
  exact br_looks_2L fu _ _ _ hB p e s0 m below meth c A E H locs ls hP hD hS (lv_sub hl [1, 2, 0] rfl)
theorem cr_looks {l : Launch} {dC : Nat → ClassId} {dI : Nat → Nat → Nat} {cB cI cJ cZ cS : ClassId} {h : Nat} {a : Nat → Nat} {s' : RS} {s : RS} {x1 : Int32} (hB : r_looks s x1 = some s') : CV l yX11_looks wsX11_looks ({ frames := 0, cells := 0, slots := 0, locals := 0 }) (dC, dI) (tysA cB cI cJ cZ cS) (mwS cB cI cJ cZ h a s) [.ref h, .int x1] (fun u => u = (mwS cB cI cJ cZ h a s')) :=
  CV_of (cc := cX11_looks) (maxL := 3) (ret := none) (by decide) rfl (Nat.le_of_ble_eq_true rfl) (br_looks _ _ hB)
theorem LX11_looksOver_101 : Cond.fieldLink RX11 101 "GuessFerryModel" "row" "[I" ∈ wsX11_looksOver := (List.mem_cons_of_mem _ (List.mem_append_left _ (List.mem_append_left _ (List.mem_of_getElem? (i := 1) rfl))))
theorem LX11_looksOver_92 : Cond.fieldLink RX11 92 "GuessFerryModel" "variables" "[I" ∈ wsX11_looksOver := (List.mem_cons_of_mem _ (List.mem_append_left _ (List.mem_append_left _ (List.mem_of_getElem? (i := 0) rfl))))
theorem inX11_looksOver_X11 : ∀ w ∈ u_ws RX11 TX11 58, w ∈ wsX11_looksOver := fun w h => (List.mem_cons_of_mem _ (List.mem_append_right _ h))
set_option maxHeartbeats 4000000 in
set_option maxRecDepth 100000 in
theorem br_looksOver {l : Launch} {dC : Nat → ClassId} {dI : Nat → Nat → Nat} {cB cI cJ cZ cS : ClassId} {h : Nat} {a : Nat → Nat} {as : List Value} {s' : RS} (s : RS) (x1 : Int32) (hB : r_looksOver s x1 = some s') : BlkV l yX11_looksOver wsX11_looksOver ({ frames := 2, cells := 0, slots := 0, locals := 45 }) cX11_looksOver 2 none (dC, dI) (tysA cB cI cJ cZ cS) as 0 (mwS cB cI cJ cZ h a s) [(0, .ref h), (1, .int x1)] [] (fun u => u = (mwS cB cI cJ cZ h a s')) := by
  intro p e s0 m below meth c A E H locs ls hP hD hS hl
  obtain ⟨C, hr, hlocks, hA, hK, hN⟩ := id E
  obtain ⟨hx, hb, hml, hown, hts⟩ := id C
  unfold r_looksOver at hB
  refine lv_aload_n hx hb dX11_looksOver_0 rfl (lv_at hl 0 rfl) ?_
  refine q_get (v := .ref (a 40)) C inX11_looksOver_X11 hK hP 0 rfl rfl 40 (by decide) rfl LX11_looksOver_92 rfl dX11_looksOver_1 ?_
  refine lv_iconst (v := 0) hx hb dX11_looksOver_4 (by decide) ?_
  refine lv_iload_n hx hb dX11_looksOver_5 rfl (lv_at hl 1 rfl) ?_
  obtain ⟨s1, hs2, hB⟩ := letS_inv hB
  refine q_iast (f2 := (upd (s.f 40) 0 x1)) (w2 := (mwS cB cI cJ cZ h a s1)) C hK hP hD hS 25 1 rfl rfl (vp_lit (by decide +kernel)) dX11_looksOver_6 rfl (mwS_f40 hs2) (fun H locs hP hD hS => ?_)
  refine lv_aload_n hx hb dX11_looksOver_7 rfl (lv_at hl 0 rfl) ?_
  refine q_get (v := .ref (a 40)) C inX11_looksOver_X11 hK hP 0 rfl rfl 40 (by decide) rfl LX11_looksOver_92 rfl dX11_looksOver_8 ?_
  refine lv_iconst (v := 4) hx hb dX11_looksOver_11 (by decide) ?_
  refine lv_aload_n hx hb dX11_looksOver_12 rfl (lv_at hl 0 rfl) ?_
  refine lv_iload_n hx hb dX11_looksOver_13 rfl (lv_at hl 1 rfl) ?_
  obtain ⟨q_, s3, hc, hB⟩ := bindI_inv hB
  refine q_goiF (va_runV (As := [.int x1]) (rest := [.int 4, .ref (a 40)]) C (cr_mayAt hc _) (cwV 1 hts gX11_looksOver_X11_mayAt rfl rfl rfl (by decide +kernel) ⟨Nat.le_of_ble_eq_true rfl, Nat.le_of_ble_eq_true rfl⟩) (q_preV hK hP (ci := 11) (q0 := 0) rfl rfl rfl (q_preF hN hK hP hD)) rfl rfl hl.1 rfl (lv_room (Nat.le_of_ble_eq_true rfl)) dX11_looksOver_14 ⟨Nat.le_of_ble_eq_true rfl, Nat.le_of_ble_eq_true rfl⟩) hD hS hA (fun r4 w1 H locs hw hP hD hS => ?_)
  obtain ⟨hq_, hw⟩ := hw; subst hw; subst hq_
  obtain ⟨q_, hc, hB⟩ := bindP_inv hB
  refine q_goi0 (va_runS (As := [.int r4]) (rest := [.int 4, .ref (a 40)]) C (cr_bits hc _) (va_cwS 1 hts gX11_looksOver_X11_bits rfl rfl rfl (by decide +kernel) ⟨Nat.le_of_ble_eq_true rfl, Nat.le_of_ble_eq_true rfl⟩) (q_pre0 hN hK) rfl rfl hl.1 rfl (lv_room (Nat.le_of_ble_eq_true rfl)) dX11_looksOver_17 ⟨Nat.le_of_ble_eq_true rfl, Nat.le_of_ble_eq_true rfl⟩) hP hD hS hA (fun r5 w1 H locs hw hP hS => ?_)
  subst hw
  obtain ⟨s6, hs7, hB⟩ := letS_inv hB
  refine q_iast (f2 := (upd (s3.f 40) 4 r5)) (w2 := (mwS cB cI cJ cZ h a s6)) C hK hP hD hS 25 1 rfl rfl (vp_lit (by decide +kernel)) dX11_looksOver_20 rfl (mwS_f40 hs7) (fun H locs hP hD hS => ?_)
  refine lv_aload_n hx hb dX11_looksOver_21 rfl (lv_at hl 0 rfl) ?_
  refine q_get (v := .ref (a 40)) C inX11_looksOver_X11 hK hP 0 rfl rfl 40 (by decide) rfl LX11_looksOver_92 rfl dX11_looksOver_22 ?_
  refine lv_bipush (v := 7) hx hb dX11_looksOver_25 (by decide) ?_
  refine lv_aload_n hx hb dX11_looksOver_27 rfl (lv_at hl 0 rfl) ?_
  refine q_get (v := .ref (a 44)) C inX11_looksOver_X11 hK hP 0 rfl rfl 44 (by decide) rfl LX11_looksOver_101 rfl dX11_looksOver_28 ?_
  refine lv_iload_n hx hb dX11_looksOver_31 rfl (lv_at hl 1 rfl) ?_
  obtain ⟨g8, hB⟩ := guard_inv hB
  refine q_iald (x := (s6.f 44 (Int32.toNatClampNeg x1))) C hK hP 28 1 rfl rfl (vpb_in g8) dX11_looksOver_32 rfl ?_
  obtain ⟨q_, hc, hB⟩ := bindP_inv hB
  refine q_goi0 (va_runS (As := [.int (s6.f 44 (Int32.toNatClampNeg x1))]) (rest := [.int 7, .ref (a 40)]) C (cr_bits hc _) (va_cwS 1 hts gX11_looksOver_X11_bits rfl rfl rfl (by decide +kernel) ⟨Nat.le_of_ble_eq_true rfl, Nat.le_of_ble_eq_true rfl⟩) (q_pre0 hN hK) rfl rfl hl.1 rfl (lv_room (Nat.le_of_ble_eq_true rfl)) dX11_looksOver_33 ⟨Nat.le_of_ble_eq_true rfl, Nat.le_of_ble_eq_true rfl⟩) hP hD hS hA (fun r9 w1 H locs hw hP hS => ?_)
  subst hw
  obtain ⟨s10, hs11, hB⟩ := letS_inv hB
  refine q_iast (f2 := (upd (s6.f 40) 7 r9)) (w2 := (mwS cB cI cJ cZ h a s10)) C hK hP hD hS 25 1 rfl rfl (vp_lit (by decide +kernel)) dX11_looksOver_36 rfl (mwS_f40 hs11) (fun H locs hP hD hS => ?_)
  exact q_vret C hr hlocks hK hP hD hS (Nat.le_of_ble_eq_true rfl) (Nat.le_of_ble_eq_true rfl) dX11_looksOver_37 (by cases hB; rfl)
theorem cr_looksOver {l : Launch} {dC : Nat → ClassId} {dI : Nat → Nat → Nat} {cB cI cJ cZ cS : ClassId} {h : Nat} {a : Nat → Nat} {s' : RS} {s : RS} {x1 : Int32} (hB : r_looksOver s x1 = some s') : CV l yX11_looksOver wsX11_looksOver ({ frames := 2, cells := 0, slots := 0, locals := 45 }) (dC, dI) (tysA cB cI cJ cZ cS) (mwS cB cI cJ cZ h a s) [.ref h, .int x1] (fun u => u = (mwS cB cI cJ cZ h a s')) :=
  CV_of (cc := cX11_looksOver) (maxL := 2) (ret := none) (by decide) rfl (Nat.le_of_ble_eq_true rfl) (br_looksOver _ _ hB)
theorem LX11_needsOf_92 : Cond.fieldLink RX11 92 "GuessFerryModel" "variables" "[I" ∈ wsX11_needsOf := (List.mem_cons_of_mem _ (List.mem_append_left _ (List.mem_append_left _ (List.mem_of_getElem? (i := 0) rfl))))
theorem inX11_needsOf_X11 : ∀ w ∈ u_ws RX11 TX11 58, w ∈ wsX11_needsOf := fun w h => (List.mem_cons_of_mem _ (List.mem_append_right _ h))
set_option maxHeartbeats 4000000 in
set_option maxRecDepth 100000 in
theorem br_needsOf {l : Launch} {dC : Nat → ClassId} {dI : Nat → Nat → Nat} {cB cI cJ cZ cS : ClassId} {h : Nat} {a : Nat → Nat} {as : List Value} {r : Int32} {s' : RS} (s : RS) (x1 : Int32) (x2 : Int32) (x3 : Int32) (hB : r_needsOf s x1 x2 x3 = some (r, s')) : BlkI l yX11_needsOf wsX11_needsOf ({ frames := 3, cells := 0, slots := 0, locals := 66 }) cX11_needsOf 4 (some .int) (dC, dI) (tysA cB cI cJ cZ cS) as 0 (mwS cB cI cJ cZ h a s) [(0, .ref h), (1, .int x1), (2, .int x2), (3, .int x3)] [] (fun x u => x = r ∧ u = (mwS cB cI cJ cZ h a s')) := by
  intro p e s0 m below meth c A E H locs ls hP hD hS hl
  obtain ⟨C, hr, hlocks, hA, hK, hN⟩ := id E
  obtain ⟨hx, hb, hml, hown, hts⟩ := id C
  unfold r_needsOf at hB
  refine lv_aload_n hx hb dX11_needsOf_0 rfl (lv_at hl 0 rfl) ?_
  refine lv_iload_n hx hb dX11_needsOf_1 rfl (lv_at hl 1 rfl) ?_
  obtain ⟨s1, hc, hB⟩ := bindP_inv hB
  refine q_govF (va_runV (As := [.int x1]) (rest := []) C (cr_looks hc _) (cwV 1 hts gX11_needsOf_X11_looks rfl rfl rfl (by decide +kernel) ⟨Nat.le_of_ble_eq_true rfl, Nat.le_of_ble_eq_true rfl⟩) (q_preV hK hP (ci := 11) (q0 := 0) rfl rfl rfl (q_preF hN hK hP hD)) rfl rfl hl.1 rfl (lv_room (Nat.le_of_ble_eq_true rfl)) dX11_needsOf_2 ⟨Nat.le_of_ble_eq_true rfl, Nat.le_of_ble_eq_true rfl⟩) hD hS hA (fun w1 H locs hw hP hD hS => ?_)
  subst hw
  refine lv_aload_n hx hb dX11_needsOf_5 rfl (lv_at hl 0 rfl) ?_
  refine lv_iload_n hx hb dX11_needsOf_6 rfl (lv_at hl 2 rfl) ?_
  obtain ⟨s2, hc, hB⟩ := bindP_inv hB
  refine q_govF (va_runV (As := [.int x2]) (rest := []) C (cr_looksOver hc _) (cwV 1 hts gX11_needsOf_X11_looksOver rfl rfl rfl (by decide +kernel) ⟨Nat.le_of_ble_eq_true rfl, Nat.le_of_ble_eq_true rfl⟩) (q_preV hK hP (ci := 11) (q0 := 0) rfl rfl rfl (q_preF hN hK hP hD)) rfl rfl hl.1 rfl (lv_room (Nat.le_of_ble_eq_true rfl)) dX11_needsOf_7 ⟨Nat.le_of_ble_eq_true rfl, Nat.le_of_ble_eq_true rfl⟩) hD hS hA (fun w1 H locs hw hP hD hS => ?_)
  subst hw
  refine lv_aload_n hx hb dX11_needsOf_10 rfl (lv_at hl 0 rfl) ?_
  refine q_get (v := .ref (a 40)) C inX11_needsOf_X11 hK hP 0 rfl rfl 40 (by decide) rfl LX11_needsOf_92 rfl dX11_needsOf_11 ?_
  refine lv_iconst (v := 1) hx hb dX11_needsOf_14 (by decide) ?_
  refine lv_aload_n hx hb dX11_needsOf_15 rfl (lv_at hl 0 rfl) ?_
  refine lv_iload_n hx hb dX11_needsOf_16 rfl (lv_at hl 2 rfl) ?_
  refine lv_iload_n hx hb dX11_needsOf_17 rfl (lv_at hl 3 rfl) ?_
  obtain ⟨q_, s3, hc, hB⟩ := bindI_inv hB
  refine q_goiF (va_runV (As := [.int x2, .int x3]) (rest := [.int 1, .ref (a 40)]) C (cr_oddsAt hc _) (cwV 2 hts gX11_needsOf_X11_oddsAt rfl rfl rfl (by decide +kernel) ⟨Nat.le_of_ble_eq_true rfl, Nat.le_of_ble_eq_true rfl⟩) (q_preV hK hP (ci := 11) (q0 := 0) rfl rfl rfl (q_preF hN hK hP hD)) rfl rfl hl.1 rfl (lv_room (Nat.le_of_ble_eq_true rfl)) dX11_needsOf_18 ⟨Nat.le_of_ble_eq_true rfl, Nat.le_of_ble_eq_true rfl⟩) hD hS hA (fun r4 w1 H locs hw hP hD hS => ?_)
  obtain ⟨hq_, hw⟩ := hw; subst hw; subst hq_
  obtain ⟨s5, hs6, hB⟩ := letS_inv hB
  refine q_iast (f2 := (upd (s3.f 40) 1 r4)) (w2 := (mwS cB cI cJ cZ h a s5)) C hK hP hD hS 25 1 rfl rfl (vp_lit (by decide +kernel)) dX11_needsOf_21 rfl (mwS_f40 hs6) (fun H locs hP hD hS => ?_)
  refine lv_aload_n hx hb dX11_needsOf_22 rfl (lv_at hl 0 rfl) ?_
  refine lv_iconst (v := 0) hx hb dX11_needsOf_23 (by decide) ?_
  refine lv_aload_n hx hb dX11_needsOf_24 rfl (lv_at hl 0 rfl) ?_
  refine q_get (v := .ref (a 40)) C inX11_needsOf_X11 hK hP 0 rfl rfl 40 (by decide) rfl LX11_needsOf_92 rfl dX11_needsOf_25 ?_
  refine lv_iconst (v := 2) hx hb dX11_needsOf_28 (by decide) ?_
  refine q_iald (x := (s5.f 40 2)) C hK hP 25 1 rfl rfl (vp_lit (by decide +kernel)) dX11_needsOf_29 rfl ?_
  obtain ⟨q_, s7, hc, hB⟩ := bindI_inv hB
  refine q_goiF (va_runV (As := [.int 0, .int (s5.f 40 2)]) (rest := []) C (cr_lawTells hc _) (cwV 2 hts gX11_needsOf_X11_lawTells rfl rfl rfl (by decide +kernel) ⟨Nat.le_of_ble_eq_true rfl, Nat.le_of_ble_eq_true rfl⟩) (q_preV hK hP (ci := 11) (q0 := 0) rfl rfl rfl (q_preF hN hK hP hD)) rfl rfl hl.1 rfl (lv_room (Nat.le_of_ble_eq_true rfl)) dX11_needsOf_30 ⟨Nat.le_of_ble_eq_true rfl, Nat.le_of_ble_eq_true rfl⟩) hD hS hA (fun r8 w1 H locs hw hP hD hS => ?_)
  obtain ⟨hq_, hw⟩ := hw; subst hw; subst hq_
  refine lv_iconst (v := 0) hx hb dX11_needsOf_33 (by decide) ?_
  refine lv_bipush (v := 9) hx hb dX11_needsOf_34 (by decide) ?_
  obtain ⟨q_, hc, hB⟩ := bindP_inv hB
  refine q_goi0 (va_runS (As := [.int r8, .int 0, .int 9]) (rest := []) C (cr_within hc _) (va_cwS 3 hts gX11_needsOf_X11_within rfl rfl rfl (by decide +kernel) ⟨Nat.le_of_ble_eq_true rfl, Nat.le_of_ble_eq_true rfl⟩) (q_pre0 hN hK) rfl rfl hl.1 rfl (lv_room (Nat.le_of_ble_eq_true rfl)) dX11_needsOf_36 ⟨Nat.le_of_ble_eq_true rfl, Nat.le_of_ble_eq_true rfl⟩) hP hD hS hA (fun r9 w1 H locs hw hP hS => ?_)
  subst hw
  exact q_iret C hr hlocks hK hP hD hS (Nat.le_of_ble_eq_true rfl) (Nat.le_of_ble_eq_true rfl) dX11_needsOf_39 (by cases hB; exact ⟨rfl, rfl⟩)
theorem cr_needsOf {l : Launch} {dC : Nat → ClassId} {dI : Nat → Nat → Nat} {cB cI cJ cZ cS : ClassId} {h : Nat} {a : Nat → Nat} {r : Int32} {s' : RS} {s : RS} {x1 : Int32} {x2 : Int32} {x3 : Int32} (hB : r_needsOf s x1 x2 x3 = some (r, s')) : CI l yX11_needsOf wsX11_needsOf ({ frames := 3, cells := 0, slots := 0, locals := 66 }) (dC, dI) (tysA cB cI cJ cZ cS) (mwS cB cI cJ cZ h a s) [.ref h, .int x1, .int x2, .int x3] (fun x u => x = r ∧ u = (mwS cB cI cJ cZ h a s')) :=
  CI_of (cc := cX11_needsOf) (maxL := 4) (ret := (some .int)) (by decide) rfl (Nat.le_of_ble_eq_true rfl) (br_needsOf _ _ _ _ hB)
set_option maxHeartbeats 4000000 in
set_option maxRecDepth 100000 in
theorem br_faresOf {l : Launch} {dC : Nat → ClassId} {dI : Nat → Nat → Nat} {cB cI cJ cZ cS : ClassId} {h : Nat} {a : Nat → Nat} {as : List Value} {r : Int32} {s' : RS} (s : RS) (x1 : Int32) (hB : r_faresOf s x1 = some (r, s')) : BlkI l yX11_faresOf wsX11_faresOf ({ frames := 2, cells := 0, slots := 0, locals := 53 }) cX11_faresOf 2 (some .int) (dC, dI) (tysA cB cI cJ cZ cS) as 0 (mwS cB cI cJ cZ h a s) [(0, .ref h), (1, .int x1)] [] (fun x u => x = r ∧ u = (mwS cB cI cJ cZ h a s')) := by
  intro p e s0 m below meth c A E H locs ls hP hD hS hl
  obtain ⟨C, hr, hlocks, hA, hK, hN⟩ := id E
  obtain ⟨hx, hb, hml, hown, hts⟩ := id C
  unfold r_faresOf at hB
  refine lv_aload_n hx hb dX11_faresOf_0 rfl (lv_at hl 0 rfl) ?_
  refine lv_iload_n hx hb dX11_faresOf_1 rfl (lv_at hl 1 rfl) ?_
  obtain ⟨s1, hc, hB⟩ := bindP_inv hB
  refine q_govF (va_runV (As := [.int x1]) (rest := []) C (cr_looks hc _) (cwV 1 hts gX11_faresOf_X11_looks rfl rfl rfl (by decide +kernel) ⟨Nat.le_of_ble_eq_true rfl, Nat.le_of_ble_eq_true rfl⟩) (q_preV hK hP (ci := 11) (q0 := 0) rfl rfl rfl (q_preF hN hK hP hD)) rfl rfl hl.1 rfl (lv_room (Nat.le_of_ble_eq_true rfl)) dX11_faresOf_2 ⟨Nat.le_of_ble_eq_true rfl, Nat.le_of_ble_eq_true rfl⟩) hD hS hA (fun w1 H locs hw hP hD hS => ?_)
  subst hw
  refine lv_aload_n hx hb dX11_faresOf_5 rfl (lv_at hl 0 rfl) ?_
  refine lv_iconst (v := 1) hx hb dX11_faresOf_6 (by decide) ?_
  refine lv_iconst (v := 1) hx hb dX11_faresOf_7 (by decide) ?_
  obtain ⟨q_, s2, hc, hB⟩ := bindI_inv hB
  refine q_goiF (va_runV (As := [.int 1, .int 1]) (rest := []) C (cr_lawTells hc _) (cwV 2 hts gX11_faresOf_X11_lawTells rfl rfl rfl (by decide +kernel) ⟨Nat.le_of_ble_eq_true rfl, Nat.le_of_ble_eq_true rfl⟩) (q_preV hK hP (ci := 11) (q0 := 0) rfl rfl rfl (q_preF hN hK hP hD)) rfl rfl hl.1 rfl (lv_room (Nat.le_of_ble_eq_true rfl)) dX11_faresOf_8 ⟨Nat.le_of_ble_eq_true rfl, Nat.le_of_ble_eq_true rfl⟩) hD hS hA (fun r3 w1 H locs hw hP hD hS => ?_)
  obtain ⟨hq_, hw⟩ := hw; subst hw; subst hq_
  refine lv_iconst (v := 0) hx hb dX11_faresOf_11 (by decide) ?_
  refine lv_bipush (v := 99) hx hb dX11_faresOf_12 (by decide) ?_
  obtain ⟨q_, hc, hB⟩ := bindP_inv hB
  refine q_goi0 (va_runS (As := [.int r3, .int 0, .int 99]) (rest := []) C (cr_within hc _) (va_cwS 3 hts gX11_faresOf_X11_within rfl rfl rfl (by decide +kernel) ⟨Nat.le_of_ble_eq_true rfl, Nat.le_of_ble_eq_true rfl⟩) (q_pre0 hN hK) rfl rfl hl.1 rfl (lv_room (Nat.le_of_ble_eq_true rfl)) dX11_faresOf_14 ⟨Nat.le_of_ble_eq_true rfl, Nat.le_of_ble_eq_true rfl⟩) hP hD hS hA (fun r4 w1 H locs hw hP hS => ?_)
  subst hw
  exact q_iret C hr hlocks hK hP hD hS (Nat.le_of_ble_eq_true rfl) (Nat.le_of_ble_eq_true rfl) dX11_faresOf_17 (by cases hB; exact ⟨rfl, rfl⟩)
theorem cr_faresOf {l : Launch} {dC : Nat → ClassId} {dI : Nat → Nat → Nat} {cB cI cJ cZ cS : ClassId} {h : Nat} {a : Nat → Nat} {r : Int32} {s' : RS} {s : RS} {x1 : Int32} (hB : r_faresOf s x1 = some (r, s')) : CI l yX11_faresOf wsX11_faresOf ({ frames := 2, cells := 0, slots := 0, locals := 53 }) (dC, dI) (tysA cB cI cJ cZ cS) (mwS cB cI cJ cZ h a s) [.ref h, .int x1] (fun x u => x = r ∧ u = (mwS cB cI cJ cZ h a s')) :=
  CI_of (cc := cX11_faresOf) (maxL := 2) (ret := (some .int)) (by decide) rfl (Nat.le_of_ble_eq_true rfl) (br_faresOf _ _ hB)
set_option maxHeartbeats 4000000 in
set_option maxRecDepth 100000 in
theorem br_doesDare {l : Launch} {dC : Nat → ClassId} {dI : Nat → Nat → Nat} {cB cI cJ cZ cS : ClassId} {h : Nat} {a : Nat → Nat} {as : List Value} {r : Int32} {s' : RS} (s : RS) (x1 : Int32) (hB : r_doesDare s x1 = some (r, s')) : BlkI l yX11_doesDare wsX11_doesDare ({ frames := 2, cells := 0, slots := 0, locals := 53 }) cX11_doesDare 2 (some .boolean) (dC, dI) (tysA cB cI cJ cZ cS) as 0 (mwS cB cI cJ cZ h a s) [(0, .ref h), (1, .int x1)] [] (fun x u => x = r ∧ u = (mwS cB cI cJ cZ h a s')) := by
  intro p e s0 m below meth c A E H locs ls hP hD hS hl
  obtain ⟨C, hr, hlocks, hA, hK, hN⟩ := id E
  obtain ⟨hx, hb, hml, hown, hts⟩ := id C
  unfold r_doesDare at hB
  refine lv_aload_n hx hb dX11_doesDare_0 rfl (lv_at hl 0 rfl) ?_
  refine lv_iload_n hx hb dX11_doesDare_1 rfl (lv_at hl 1 rfl) ?_
  obtain ⟨s1, hc, hB⟩ := bindP_inv hB
  refine q_govF (va_runV (As := [.int x1]) (rest := []) C (cr_looks hc _) (cwV 1 hts gX11_doesDare_X11_looks rfl rfl rfl (by decide +kernel) ⟨Nat.le_of_ble_eq_true rfl, Nat.le_of_ble_eq_true rfl⟩) (q_preV hK hP (ci := 11) (q0 := 0) rfl rfl rfl (q_preF hN hK hP hD)) rfl rfl hl.1 rfl (lv_room (Nat.le_of_ble_eq_true rfl)) dX11_doesDare_2 ⟨Nat.le_of_ble_eq_true rfl, Nat.le_of_ble_eq_true rfl⟩) hD hS hA (fun w1 H locs hw hP hD hS => ?_)
  subst hw
  refine lv_aload_n hx hb dX11_doesDare_5 rfl (lv_at hl 0 rfl) ?_
  refine lv_iconst (v := 2) hx hb dX11_doesDare_6 (by decide) ?_
  refine lv_iconst (v := 1) hx hb dX11_doesDare_7 (by decide) ?_
  obtain ⟨q_, s2, hc, hB⟩ := bindI_inv hB
  refine q_goiF (va_runV (As := [.int 2, .int 1]) (rest := []) C (cr_lawTells hc _) (cwV 2 hts gX11_doesDare_X11_lawTells rfl rfl rfl (by decide +kernel) ⟨Nat.le_of_ble_eq_true rfl, Nat.le_of_ble_eq_true rfl⟩) (q_preV hK hP (ci := 11) (q0 := 0) rfl rfl rfl (q_preF hN hK hP hD)) rfl rfl hl.1 rfl (lv_room (Nat.le_of_ble_eq_true rfl)) dX11_doesDare_8 ⟨Nat.le_of_ble_eq_true rfl, Nat.le_of_ble_eq_true rfl⟩) hD hS hA (fun r3 w1 H locs hw hP hD hS => ?_)
  obtain ⟨hq_, hw⟩ := hw; subst hw; subst hq_
  refine lv_if_le (tgt := 18) hx hb dX11_doesDare_11 (by decide) (fun c4 => ?_) (fun c4 => ?_)
  · have hB := if_p hB c4
    refine lv_iconst (v := 0) hx hb dX11_doesDare_18 (by decide) ?_
    exact q_zret C hr hlocks (Or.inl rfl) hK hP hD hS (Nat.le_of_ble_eq_true rfl) (Nat.le_of_ble_eq_true rfl) dX11_doesDare_19 (by cases hB; exact ⟨rfl, rfl⟩)
  · have hB := if_n hB c4
    refine lv_iconst (v := 1) hx hb dX11_doesDare_14 (by decide) ?_
    refine lv_goto (tgt := 19) hx hb dX11_doesDare_15 (by decide) ?_
    exact q_zret C hr hlocks (Or.inr rfl) hK hP hD hS (Nat.le_of_ble_eq_true rfl) (Nat.le_of_ble_eq_true rfl) dX11_doesDare_19 (by cases hB; exact ⟨rfl, rfl⟩)
theorem cr_doesDare {l : Launch} {dC : Nat → ClassId} {dI : Nat → Nat → Nat} {cB cI cJ cZ cS : ClassId} {h : Nat} {a : Nat → Nat} {r : Int32} {s' : RS} {s : RS} {x1 : Int32} (hB : r_doesDare s x1 = some (r, s')) : CI l yX11_doesDare wsX11_doesDare ({ frames := 2, cells := 0, slots := 0, locals := 53 }) (dC, dI) (tysA cB cI cJ cZ cS) (mwS cB cI cJ cZ h a s) [.ref h, .int x1] (fun x u => x = r ∧ u = (mwS cB cI cJ cZ h a s')) :=
  CI_of (cc := cX11_doesDare) (maxL := 2) (ret := (some .boolean)) (by decide) rfl (Nat.le_of_ble_eq_true rfl) (br_doesDare _ _ hB)
set_option maxHeartbeats 4000000 in
set_option maxRecDepth 100000 in
theorem br_shiftsOf {l : Launch} {dC : Nat → ClassId} {dI : Nat → Nat → Nat} {cB cI cJ cZ cS : ClassId} {h : Nat} {a : Nat → Nat} {as : List Value} {r : Int32} {s' : RS} (s : RS) (x1 : Int32) (hB : r_shiftsOf s x1 = some (r, s')) : BlkI l yX11_shiftsOf wsX11_shiftsOf ({ frames := 3, cells := 0, slots := 0, locals := 66 }) cX11_shiftsOf 2 (some .int) (dC, dI) (tysA cB cI cJ cZ cS) as 0 (mwS cB cI cJ cZ h a s) [(0, .ref h), (1, .int x1)] [] (fun x u => x = r ∧ u = (mwS cB cI cJ cZ h a s')) := by
  intro p e s0 m below meth c A E H locs ls hP hD hS hl
  obtain ⟨C, hr, hlocks, hA, hK, hN⟩ := id E
  obtain ⟨hx, hb, hml, hown, hts⟩ := id C
  unfold r_shiftsOf at hB
  refine lv_aload_n hx hb dX11_shiftsOf_0 rfl (lv_at hl 0 rfl) ?_
  refine lv_iconst (v := (-1)) hx hb dX11_shiftsOf_1 (by decide) ?_
  obtain ⟨s1, hc, hB⟩ := bindP_inv hB
  refine q_govF (va_runV (As := [.int (-1)]) (rest := []) C (cr_looks hc _) (cwV 1 hts gX11_shiftsOf_X11_looks rfl rfl rfl (by decide +kernel) ⟨Nat.le_of_ble_eq_true rfl, Nat.le_of_ble_eq_true rfl⟩) (q_preV hK hP (ci := 11) (q0 := 0) rfl rfl rfl (q_preF hN hK hP hD)) rfl rfl hl.1 rfl (lv_room (Nat.le_of_ble_eq_true rfl)) dX11_shiftsOf_2 ⟨Nat.le_of_ble_eq_true rfl, Nat.le_of_ble_eq_true rfl⟩) hD hS hA (fun w1 H locs hw hP hD hS => ?_)
  subst hw
  refine lv_aload_n hx hb dX11_shiftsOf_5 rfl (lv_at hl 0 rfl) ?_
  refine lv_iload_n hx hb dX11_shiftsOf_6 rfl (lv_at hl 1 rfl) ?_
  obtain ⟨s2, hc, hB⟩ := bindP_inv hB
  refine q_govF (va_runV (As := [.int x1]) (rest := []) C (cr_looksOver hc _) (cwV 1 hts gX11_shiftsOf_X11_looksOver rfl rfl rfl (by decide +kernel) ⟨Nat.le_of_ble_eq_true rfl, Nat.le_of_ble_eq_true rfl⟩) (q_preV hK hP (ci := 11) (q0 := 0) rfl rfl rfl (q_preF hN hK hP hD)) rfl rfl hl.1 rfl (lv_room (Nat.le_of_ble_eq_true rfl)) dX11_shiftsOf_7 ⟨Nat.le_of_ble_eq_true rfl, Nat.le_of_ble_eq_true rfl⟩) hD hS hA (fun w1 H locs hw hP hD hS => ?_)
  subst hw
  refine lv_aload_n hx hb dX11_shiftsOf_10 rfl (lv_at hl 0 rfl) ?_
  refine lv_iconst (v := 3) hx hb dX11_shiftsOf_11 (by decide) ?_
  refine lv_iconst (v := 0) hx hb dX11_shiftsOf_12 (by decide) ?_
  obtain ⟨q_, s3, hc, hB⟩ := bindI_inv hB
  refine q_goiF (va_runV (As := [.int 3, .int 0]) (rest := []) C (cr_lawTells hc _) (cwV 2 hts gX11_shiftsOf_X11_lawTells rfl rfl rfl (by decide +kernel) ⟨Nat.le_of_ble_eq_true rfl, Nat.le_of_ble_eq_true rfl⟩) (q_preV hK hP (ci := 11) (q0 := 0) rfl rfl rfl (q_preF hN hK hP hD)) rfl rfl hl.1 rfl (lv_room (Nat.le_of_ble_eq_true rfl)) dX11_shiftsOf_13 ⟨Nat.le_of_ble_eq_true rfl, Nat.le_of_ble_eq_true rfl⟩) hD hS hA (fun r4 w1 H locs hw hP hD hS => ?_)
  obtain ⟨hq_, hw⟩ := hw; subst hw; subst hq_
  refine lv_iconst (v := 0) hx hb dX11_shiftsOf_16 (by decide) ?_
  refine lv_bipush (v := 100) hx hb dX11_shiftsOf_17 (by decide) ?_
  obtain ⟨q_, hc, hB⟩ := bindP_inv hB
  refine q_goi0 (va_runS (As := [.int r4, .int 0, .int 100]) (rest := []) C (cr_within hc _) (va_cwS 3 hts gX11_shiftsOf_X11_within rfl rfl rfl (by decide +kernel) ⟨Nat.le_of_ble_eq_true rfl, Nat.le_of_ble_eq_true rfl⟩) (q_pre0 hN hK) rfl rfl hl.1 rfl (lv_room (Nat.le_of_ble_eq_true rfl)) dX11_shiftsOf_19 ⟨Nat.le_of_ble_eq_true rfl, Nat.le_of_ble_eq_true rfl⟩) hP hD hS hA (fun r5 w1 H locs hw hP hS => ?_)
  subst hw
  exact q_iret C hr hlocks hK hP hD hS (Nat.le_of_ble_eq_true rfl) (Nat.le_of_ble_eq_true rfl) dX11_shiftsOf_22 (by cases hB; exact ⟨rfl, rfl⟩)
theorem cr_shiftsOf {l : Launch} {dC : Nat → ClassId} {dI : Nat → Nat → Nat} {cB cI cJ cZ cS : ClassId} {h : Nat} {a : Nat → Nat} {r : Int32} {s' : RS} {s : RS} {x1 : Int32} (hB : r_shiftsOf s x1 = some (r, s')) : CI l yX11_shiftsOf wsX11_shiftsOf ({ frames := 3, cells := 0, slots := 0, locals := 66 }) (dC, dI) (tysA cB cI cJ cZ cS) (mwS cB cI cJ cZ h a s) [.ref h, .int x1] (fun x u => x = r ∧ u = (mwS cB cI cJ cZ h a s')) :=
  CI_of (cc := cX11_shiftsOf) (maxL := 2) (ret := (some .int)) (by decide) rfl (Nat.le_of_ble_eq_true rfl) (br_shiftsOf _ _ hB)
set_option maxHeartbeats 4000000 in
set_option maxRecDepth 100000 in
theorem br_doesBear {l : Launch} {dC : Nat → ClassId} {dI : Nat → Nat → Nat} {cB cI cJ cZ cS : ClassId} {h : Nat} {a : Nat → Nat} {as : List Value} {r : Int32} {s' : RS} (s : RS) (x1 : Int32) (x2 : Int32) (x3 : Int32) (hB : r_doesBear s x1 x2 x3 = some (r, s')) : BlkI l yX11_doesBear wsX11_doesBear ({ frames := 4, cells := 0, slots := 0, locals := 89 }) cX11_doesBear 4 (some .boolean) (dC, dI) (tysA cB cI cJ cZ cS) as 0 (mwS cB cI cJ cZ h a s) [(0, .ref h), (1, .int x1), (2, .int x2), (3, .int x3)] [] (fun x u => x = r ∧ u = (mwS cB cI cJ cZ h a s')) := by
  intro p e s0 m below meth c A E H locs ls hP hD hS hl
  obtain ⟨C, hr, hlocks, hA, hK, hN⟩ := id E
  obtain ⟨hx, hb, hml, hown, hts⟩ := id C
  unfold r_doesBear at hB
  refine lv_aload_n hx hb dX11_doesBear_0 rfl (lv_at hl 0 rfl) ?_
  refine lv_iload_n hx hb dX11_doesBear_1 rfl (lv_at hl 2 rfl) ?_
  refine lv_iload_n hx hb dX11_doesBear_2 rfl (lv_at hl 3 rfl) ?_
  obtain ⟨q_, s1, hc, hB⟩ := bindI_inv hB
  refine q_goiF (va_runV (As := [.int x2, .int x3]) (rest := []) C (cr_oddsAt hc _) (cwV 2 hts gX11_doesBear_X11_oddsAt rfl rfl rfl (by decide +kernel) ⟨Nat.le_of_ble_eq_true rfl, Nat.le_of_ble_eq_true rfl⟩) (q_preV hK hP (ci := 11) (q0 := 0) rfl rfl rfl (q_preF hN hK hP hD)) rfl rfl hl.1 rfl (lv_room (Nat.le_of_ble_eq_true rfl)) dX11_doesBear_3 ⟨Nat.le_of_ble_eq_true rfl, Nat.le_of_ble_eq_true rfl⟩) hD hS hA (fun r2 w1 H locs hw hP hD hS => ?_)
  obtain ⟨hq_, hw⟩ := hw; subst hw; subst hq_
  refine lv_aload_n hx hb dX11_doesBear_6 rfl (lv_at hl 0 rfl) ?_
  refine lv_iload_n hx hb dX11_doesBear_7 rfl (lv_at hl 1 rfl) ?_
  refine lv_iload_n hx hb dX11_doesBear_8 rfl (lv_at hl 2 rfl) ?_
  refine lv_iload_n hx hb dX11_doesBear_9 rfl (lv_at hl 3 rfl) ?_
  obtain ⟨q_, s3, hc, hB⟩ := bindI_inv hB
  refine q_goiF (va_runV (As := [.int x1, .int x2, .int x3]) (rest := [.int r2]) C (cr_needsOf hc _) (cwV 3 hts gX11_doesBear_X11_needsOf rfl rfl rfl (by decide +kernel) ⟨Nat.le_of_ble_eq_true rfl, Nat.le_of_ble_eq_true rfl⟩) (q_preV hK hP (ci := 11) (q0 := 0) rfl rfl rfl (q_preF hN hK hP hD)) rfl rfl hl.1 rfl (lv_room (Nat.le_of_ble_eq_true rfl)) dX11_doesBear_10 ⟨Nat.le_of_ble_eq_true rfl, Nat.le_of_ble_eq_true rfl⟩) hD hS hA (fun r4 w1 H locs hw hP hD hS => ?_)
  obtain ⟨hq_, hw⟩ := hw; subst hw; subst hq_
  refine lv_icmp_lt (tgt := 20) hx hb dX11_doesBear_13 (by decide) (fun c5 => ?_) (fun c5 => ?_)
  · have hB := if_p hB c5
    refine lv_iconst (v := 0) hx hb dX11_doesBear_20 (by decide) ?_
    exact q_zret C hr hlocks (Or.inl rfl) hK hP hD hS (Nat.le_of_ble_eq_true rfl) (Nat.le_of_ble_eq_true rfl) dX11_doesBear_21 (by cases hB; exact ⟨rfl, rfl⟩)
  · have hB := if_n hB c5
    refine lv_iconst (v := 1) hx hb dX11_doesBear_16 (by decide) ?_
    refine lv_goto (tgt := 21) hx hb dX11_doesBear_17 (by decide) ?_
    exact q_zret C hr hlocks (Or.inr rfl) hK hP hD hS (Nat.le_of_ble_eq_true rfl) (Nat.le_of_ble_eq_true rfl) dX11_doesBear_21 (by cases hB; exact ⟨rfl, rfl⟩)
theorem cr_doesBear {l : Launch} {dC : Nat → ClassId} {dI : Nat → Nat → Nat} {cB cI cJ cZ cS : ClassId} {h : Nat} {a : Nat → Nat} {r : Int32} {s' : RS} {s : RS} {x1 : Int32} {x2 : Int32} {x3 : Int32} (hB : r_doesBear s x1 x2 x3 = some (r, s')) : CI l yX11_doesBear wsX11_doesBear ({ frames := 4, cells := 0, slots := 0, locals := 89 }) (dC, dI) (tysA cB cI cJ cZ cS) (mwS cB cI cJ cZ h a s) [.ref h, .int x1, .int x2, .int x3] (fun x u => x = r ∧ u = (mwS cB cI cJ cZ h a s')) :=
  CI_of (cc := cX11_doesBear) (maxL := 4) (ret := (some .boolean)) (by decide) rfl (Nat.le_of_ble_eq_true rfl) (br_doesBear _ _ _ _ hB)
theorem LX11_bearsBy_215 : Cond.fieldLink RX11 215 "GuessFerryModel" "live" "I" ∈ wsX11_bearsBy := (List.mem_cons_of_mem _ (List.mem_append_left _ (List.mem_append_left _ (List.mem_of_getElem? (i := 1) rfl))))
theorem LX11_bearsBy_40 : Cond.fieldLink RX11 40 "GuessFerryModel" "waves" "[I" ∈ wsX11_bearsBy := (List.mem_cons_of_mem _ (List.mem_append_left _ (List.mem_append_left _ (List.mem_of_getElem? (i := 0) rfl))))
theorem inX11_bearsBy_X11 : ∀ w ∈ u_ws RX11 TX11 58, w ∈ wsX11_bearsBy := fun w h => (List.mem_cons_of_mem _ (List.mem_append_right _ h))
set_option maxHeartbeats 4000000 in
set_option maxRecDepth 100000 in
theorem br_bearsBy_2 {l : Launch} {dC : Nat → ClassId} {dI : Nat → Nat → Nat} {cB cI cJ cZ cS : ClassId} {h : Nat} {a : Nat → Nat} {as : List Value} {r : Int32} {s' : RS} {k2 : RS → Int32 → Int32 → Int32 → Option (Int32 × RS)} (hk2 : ∀ (s : RS) (x1 : Int32) (x2 : Int32) (x3 : Int32), k2 s x1 x2 x3 = some (r, s') → BlkI l yX11_bearsBy wsX11_bearsBy ({ frames := 5, cells := 0, slots := 0, locals := 112 }) cX11_bearsBy 4 (some .int) (dC, dI) (tysA cB cI cJ cZ cS) as 2 (mwS cB cI cJ cZ h a s) [(0, .ref h), (1, .int x1), (2, .int x2), (3, .int x3)] [] (fun x u => x = r ∧ u = (mwS cB cI cJ cZ h a s'))) (s : RS) (x1 : Int32) (x2 : Int32) (x3 : Int32) (hB : r_bearsBy_2 k2 s x1 x2 x3 = some (r, s')) : BlkI l yX11_bearsBy wsX11_bearsBy ({ frames := 5, cells := 0, slots := 0, locals := 112 }) cX11_bearsBy 4 (some .int) (dC, dI) (tysA cB cI cJ cZ cS) as 2 (mwS cB cI cJ cZ h a s) [(0, .ref h), (1, .int x1), (2, .int x2), (3, .int x3)] [] (fun x u => x = r ∧ u = (mwS cB cI cJ cZ h a s')) := by
  intro p e s0 m below meth c A E H locs ls hP hD hS hl
  obtain ⟨C, hr, hlocks, hA, hK, hN⟩ := id E
  obtain ⟨hx, hb, hml, hown, hts⟩ := id C
  unfold r_bearsBy_2 at hB
  refine lv_iload_n hx hb dX11_bearsBy_2 rfl (lv_at hl 3 rfl) ?_
  refine lv_aload_n hx hb dX11_bearsBy_3 rfl (lv_at hl 0 rfl) ?_
  refine q_get (v := .ref (a 20)) C inX11_bearsBy_X11 hK hP 0 rfl rfl 20 (by decide) rfl LX11_bearsBy_40 rfl dX11_bearsBy_4 ?_
  refine lv_aload_n hx hb dX11_bearsBy_7 rfl (lv_at hl 0 rfl) ?_
  refine q_get (v := .int (s.v 18)) C inX11_bearsBy_X11 hK hP 0 rfl rfl 18 (by decide) rfl LX11_bearsBy_215 rfl dX11_bearsBy_8 ?_
  obtain ⟨g1, hB⟩ := guard_inv hB
  refine q_iald (x := (s.f 20 (Int32.toNatClampNeg (s.v 18)))) C hK hP 8 1 rfl rfl (vpb_in g1) dX11_bearsBy_11 rfl ?_
  refine lv_icmp_ge (tgt := 36) hx hb dX11_bearsBy_12 (by decide) (fun c2 => ?_) (fun c2 => ?_)
  · have hB := if_p hB c2
    refine lv_iload_n hx hb dX11_bearsBy_36 rfl (lv_at hl 3 rfl) ?_
    exact q_iret C hr hlocks hK hP hD hS (Nat.le_of_ble_eq_true rfl) (Nat.le_of_ble_eq_true rfl) dX11_bearsBy_37 (by cases hB; exact ⟨rfl, rfl⟩)
  · have hB := if_n hB c2
    refine lv_aload_n hx hb dX11_bearsBy_15 rfl (lv_at hl 0 rfl) ?_
    refine lv_iload_n hx hb dX11_bearsBy_16 rfl (lv_at hl 1 rfl) ?_
    refine lv_iload_n hx hb dX11_bearsBy_17 rfl (lv_at hl 3 rfl) ?_
    refine lv_aload_n hx hb dX11_bearsBy_18 rfl (lv_at hl 0 rfl) ?_
    refine lv_iload_n hx hb dX11_bearsBy_19 rfl (lv_at hl 2 rfl) ?_
    refine lv_iload_n hx hb dX11_bearsBy_20 rfl (lv_at hl 3 rfl) ?_
    obtain ⟨q_, s3, hc, hB⟩ := bindI_inv hB
    refine q_goiF (va_runV (As := [.int x2, .int x3]) (rest := [.int x3, .int x1, .ref h]) C (cr_thingAt hc _) (cwV 2 hts gX11_bearsBy_X11_thingAt rfl rfl rfl (by decide +kernel) ⟨Nat.le_of_ble_eq_true rfl, Nat.le_of_ble_eq_true rfl⟩) (q_preV hK hP (ci := 11) (q0 := 0) rfl rfl rfl (q_preF hN hK hP hD)) rfl rfl hl.1 rfl (lv_room (Nat.le_of_ble_eq_true rfl)) dX11_bearsBy_21 ⟨Nat.le_of_ble_eq_true rfl, Nat.le_of_ble_eq_true rfl⟩) hD hS hA (fun r4 w1 H locs hw hP hD hS => ?_)
    obtain ⟨hq_, hw⟩ := hw; subst hw; subst hq_
    obtain ⟨q_, s5, hc, hB⟩ := bindI_inv hB
    refine q_goiF (va_runV (As := [.int x1, .int x3, .int r4]) (rest := []) C (cr_doesBear hc _) (cwV 3 hts gX11_bearsBy_X11_doesBear rfl rfl rfl (by decide +kernel) ⟨Nat.le_of_ble_eq_true rfl, Nat.le_of_ble_eq_true rfl⟩) (q_preV hK hP (ci := 11) (q0 := 0) rfl rfl rfl (q_preF hN hK hP hD)) rfl rfl hl.1 rfl (lv_room (Nat.le_of_ble_eq_true rfl)) dX11_bearsBy_24 ⟨Nat.le_of_ble_eq_true rfl, Nat.le_of_ble_eq_true rfl⟩) hD hS hA (fun r6 w1 H locs hw hP hD hS => ?_)
    obtain ⟨hq_, hw⟩ := hw; subst hw; subst hq_
    refine lv_if_eq (tgt := 36) hx hb dX11_bearsBy_27 (by decide) (fun c7 => ?_) (fun c7 => ?_)
    · have hB := if_p hB c7
      refine lv_iload_n hx hb dX11_bearsBy_36 rfl (lv_at hl 3 rfl) ?_
      exact q_iret C hr hlocks hK hP hD hS (Nat.le_of_ble_eq_true rfl) (Nat.le_of_ble_eq_true rfl) dX11_bearsBy_37 (by cases hB; exact ⟨rfl, rfl⟩)
    · have hB := if_n hB c7
      refine lv_iinc (v := (x3 + 1)) (lv' := [(3, .int (x3 + 1)), (0, .ref h), (1, .int x1), (2, .int x2)]) hx hb dX11_bearsBy_30 hl (k := 3) rfl (rfl) (by decide) rfl (fun ls hl => ?_)
      refine lv_goto (tgt := 2) hx hb dX11_bearsBy_33 (by decide) ?_
      exact hk2 _ _ _ _ hB p e s0 m below meth c A E H locs ls hP hD hS (lv_sub hl [1, 2, 3, 0] rfl)
theorem br_bearsBy_2L {l : Launch} {dC : Nat → ClassId} {dI : Nat → Nat → Nat} {cB cI cJ cZ cS : ClassId} {h : Nat} {a : Nat → Nat} {as : List Value} {r : Int32} {s' : RS} : ∀ (n : Nat) (s : RS) (x1 : Int32) (x2 : Int32) (x3 : Int32), r_bearsBy_2L n s x1 x2 x3 = some (r, s') → BlkI l yX11_bearsBy wsX11_bearsBy ({ frames := 5, cells := 0, slots := 0, locals := 112 }) cX11_bearsBy 4 (some .int) (dC, dI) (tysA cB cI cJ cZ cS) as 2 (mwS cB cI cJ cZ h a s) [(0, .ref h), (1, .int x1), (2, .int x2), (3, .int x3)] [] (fun x u => x = r ∧ u = (mwS cB cI cJ cZ h a s')) := by
  intro n
  induction n with
  | zero => intro s x1 x2 x3 hB; exact none_ne hB
  | succ n ih => intro s x1 x2 x3 hB; exact br_bearsBy_2 ih _ _ _ _ hB
set_option maxHeartbeats 4000000 in
set_option maxRecDepth 100000 in
theorem br_bearsBy {l : Launch} {dC : Nat → ClassId} {dI : Nat → Nat → Nat} {cB cI cJ cZ cS : ClassId} {h : Nat} {a : Nat → Nat} {as : List Value} {r : Int32} {s' : RS} (s : RS) (x1 : Int32) (x2 : Int32) (hB : r_bearsBy s x1 x2 = some (r, s')) : BlkI l yX11_bearsBy wsX11_bearsBy ({ frames := 5, cells := 0, slots := 0, locals := 112 }) cX11_bearsBy 4 (some .int) (dC, dI) (tysA cB cI cJ cZ cS) as 0 (mwS cB cI cJ cZ h a s) [(0, .ref h), (1, .int x1), (2, .int x2)] [] (fun x u => x = r ∧ u = (mwS cB cI cJ cZ h a s')) := by
  intro p e s0 m below meth c A E H locs ls hP hD hS hl
  obtain ⟨C, hr, hlocks, hA, hK, hN⟩ := id E
  obtain ⟨hx, hb, hml, hown, hts⟩ := id C
  unfold r_bearsBy at hB
  refine lv_iconst (v := 0) hx hb dX11_bearsBy_0 (by decide) ?_
  refine lv_istore_n (lv' := [(3, .int 0), (0, .ref h), (1, .int x1), (2, .int x2)]) hx hb dX11_bearsBy_1 rfl hl (by decide) rfl (fun ls hl => ?_)
  exact br_bearsBy_2L fu _ _ _ _ hB p e s0 m below meth c A E H locs ls hP hD hS (lv_sub hl [1, 2, 3, 0] rfl)
theorem cr_bearsBy {l : Launch} {dC : Nat → ClassId} {dI : Nat → Nat → Nat} {cB cI cJ cZ cS : ClassId} {h : Nat} {a : Nat → Nat} {r : Int32} {s' : RS} {s : RS} {x1 : Int32} {x2 : Int32} (hB : r_bearsBy s x1 x2 = some (r, s')) : CI l yX11_bearsBy wsX11_bearsBy ({ frames := 5, cells := 0, slots := 0, locals := 112 }) (dC, dI) (tysA cB cI cJ cZ cS) (mwS cB cI cJ cZ h a s) [.ref h, .int x1, .int x2] (fun x u => x = r ∧ u = (mwS cB cI cJ cZ h a s')) :=
  CI_of (cc := cX11_bearsBy) (maxL := 4) (ret := (some .int)) (by decide) rfl (Nat.le_of_ble_eq_true rfl) (br_bearsBy _ _ _ hB)
theorem LX11_goesBy_101 : Cond.fieldLink RX11 101 "GuessFerryModel" "row" "[I" ∈ wsX11_goesBy := (List.mem_cons_of_mem _ (List.mem_append_left _ (List.mem_append_left _ (List.mem_of_getElem? (i := 0) rfl))))
theorem LX11_goesBy_215 : Cond.fieldLink RX11 215 "GuessFerryModel" "live" "I" ∈ wsX11_goesBy := (List.mem_cons_of_mem _ (List.mem_append_left _ (List.mem_append_left _ (List.mem_of_getElem? (i := 2) rfl))))
theorem LX11_goesBy_40 : Cond.fieldLink RX11 40 "GuessFerryModel" "waves" "[I" ∈ wsX11_goesBy := (List.mem_cons_of_mem _ (List.mem_append_left _ (List.mem_append_left _ (List.mem_of_getElem? (i := 1) rfl))))
theorem inX11_goesBy_X11 : ∀ w ∈ u_ws RX11 TX11 58, w ∈ wsX11_goesBy := fun w h => (List.mem_cons_of_mem _ (List.mem_append_right _ h))
set_option maxHeartbeats 4000000 in
set_option maxRecDepth 100000 in
theorem br_goesBy_39 {l : Launch} {dC : Nat → ClassId} {dI : Nat → Nat → Nat} {cB cI cJ cZ cS : ClassId} {h : Nat} {a : Nat → Nat} {as : List Value} {r : Int32} {s' : RS} {k39 : RS → Int32 → Int32 → Int32 → Int32 → Int32 → Option (Int32 × RS)} (hk39 : ∀ (s : RS) (x1 : Int32) (x2 : Int32) (x3 : Int32) (x4 : Int32) (x5 : Int32), k39 s x1 x2 x3 x4 x5 = some (r, s') → BlkI l yX11_goesBy wsX11_goesBy ({ frames := 6, cells := 0, slots := 0, locals := 135 }) cX11_goesBy 7 (some .int) (dC, dI) (tysA cB cI cJ cZ cS) as 39 (mwS cB cI cJ cZ h a s) [(0, .ref h), (1, .int x1), (2, .int x2), (3, .int x3), (4, .int x4), (5, .int x5)] [] (fun x u => x = r ∧ u = (mwS cB cI cJ cZ h a s'))) (s : RS) (x1 : Int32) (x2 : Int32) (x3 : Int32) (x4 : Int32) (x5 : Int32) (hB : r_goesBy_39 k39 s x1 x2 x3 x4 x5 = some (r, s')) : BlkI l yX11_goesBy wsX11_goesBy ({ frames := 6, cells := 0, slots := 0, locals := 135 }) cX11_goesBy 7 (some .int) (dC, dI) (tysA cB cI cJ cZ cS) as 39 (mwS cB cI cJ cZ h a s) [(0, .ref h), (1, .int x1), (2, .int x2), (3, .int x3), (4, .int x4), (5, .int x5)] [] (fun x u => x = r ∧ u = (mwS cB cI cJ cZ h a s')) := by
  intro p e s0 m below meth c A E H locs ls hP hD hS hl
  obtain ⟨C, hr, hlocks, hA, hK, hN⟩ := id E
  obtain ⟨hx, hb, hml, hown, hts⟩ := id C
  unfold r_goesBy_39 at hB
  refine lv_iload hx hb dX11_goesBy_39 (lv_at hl 5 rfl) ?_
  refine lv_aload_n hx hb dX11_goesBy_41 rfl (lv_at hl 0 rfl) ?_
  refine q_get (v := .ref (a 20)) C inX11_goesBy_X11 hK hP 0 rfl rfl 20 (by decide) rfl LX11_goesBy_40 rfl dX11_goesBy_42 ?_
  refine lv_aload_n hx hb dX11_goesBy_45 rfl (lv_at hl 0 rfl) ?_
  refine q_get (v := .int (s.v 18)) C inX11_goesBy_X11 hK hP 0 rfl rfl 18 (by decide) rfl LX11_goesBy_215 rfl dX11_goesBy_46 ?_
  obtain ⟨g1, hB⟩ := guard_inv hB
  refine q_iald (x := (s.f 20 (Int32.toNatClampNeg (s.v 18)))) C hK hP 8 1 rfl rfl (vpb_in g1) dX11_goesBy_49 rfl ?_
  refine lv_icmp_ge (tgt := 128) hx hb dX11_goesBy_50 (by decide) (fun c2 => ?_) (fun c2 => ?_)
  · have hB := if_p hB c2
    refine lv_aload_n hx hb dX11_goesBy_128 rfl (lv_at hl 0 rfl) ?_
    refine q_get (v := .ref (a 44)) C inX11_goesBy_X11 hK hP 0 rfl rfl 44 (by decide) rfl LX11_goesBy_101 rfl dX11_goesBy_129 ?_
    refine lv_bipush (v := 15) hx hb dX11_goesBy_132 (by decide) ?_
    refine lv_iload_n hx hb dX11_goesBy_134 rfl (lv_at hl 1 rfl) ?_
    refine lv_iadd hx hb dX11_goesBy_135 ?_
    refine lv_iconst (v := 2) hx hb dX11_goesBy_136 (by decide) ?_
    obtain ⟨g3, hB⟩ := guard_inv hB
    obtain ⟨s4, hs5, hB⟩ := letS_inv hB
    refine q_iast (f2 := (upd (s.f 44) (Int32.toNatClampNeg (15 + x1)) 2)) (w2 := (mwS cB cI cJ cZ h a s4)) C hK hP hD hS 28 1 rfl rfl (vpb_in g3) dX11_goesBy_137 rfl (mwS_f44 hs5) (fun H locs hP hD hS => ?_)
    refine lv_aload_n hx hb dX11_goesBy_138 rfl (lv_at hl 0 rfl) ?_
    refine q_get (v := .ref (a 20)) C inX11_goesBy_X11 hK hP 0 rfl rfl 20 (by decide) rfl LX11_goesBy_40 rfl dX11_goesBy_139 ?_
    refine lv_aload_n hx hb dX11_goesBy_142 rfl (lv_at hl 0 rfl) ?_
    refine q_get (v := .int (s4.v 18)) C inX11_goesBy_X11 hK hP 0 rfl rfl 18 (by decide) rfl LX11_goesBy_215 rfl dX11_goesBy_143 ?_
    obtain ⟨g6, hB⟩ := guard_inv hB
    refine q_iald (x := (s4.f 20 (Int32.toNatClampNeg (s4.v 18)))) C hK hP 8 1 rfl rfl (vpb_in g6) dX11_goesBy_146 rfl ?_
    exact q_iret C hr hlocks hK hP hD hS (Nat.le_of_ble_eq_true rfl) (Nat.le_of_ble_eq_true rfl) dX11_goesBy_147 (by cases hB; exact ⟨rfl, rfl⟩)
  · have hB := if_n hB c2
    refine lv_aload_n hx hb dX11_goesBy_53 rfl (lv_at hl 0 rfl) ?_
    refine lv_iload_n hx hb dX11_goesBy_54 rfl (lv_at hl 2 rfl) ?_
    refine lv_iload hx hb dX11_goesBy_55 (lv_at hl 5 rfl) ?_
    obtain ⟨q_, s7, hc, hB⟩ := bindI_inv hB
    refine q_goiF (va_runV (As := [.int x2, .int x5]) (rest := []) C (cr_thingAt hc _) (cwV 2 hts gX11_goesBy_X11_thingAt rfl rfl rfl (by decide +kernel) ⟨Nat.le_of_ble_eq_true rfl, Nat.le_of_ble_eq_true rfl⟩) (q_preV hK hP (ci := 11) (q0 := 0) rfl rfl rfl (q_preF hN hK hP hD)) rfl rfl hl.1 rfl (lv_room (Nat.le_of_ble_eq_true rfl)) dX11_goesBy_57 ⟨Nat.le_of_ble_eq_true rfl, Nat.le_of_ble_eq_true rfl⟩) hD hS hA (fun r8 w1 H locs hw hP hD hS => ?_)
    obtain ⟨hq_, hw⟩ := hw; subst hw; subst hq_
    refine lv_istore (lv' := [(6, .int r8), (0, .ref h), (1, .int x1), (2, .int x2), (3, .int x3), (4, .int x4), (5, .int x5)]) hx hb dX11_goesBy_60 hl (by decide) rfl (fun ls hl => ?_)
    refine lv_iload hx hb dX11_goesBy_62 (lv_at hl 6 rfl) ?_
    refine lv_iload hx hb dX11_goesBy_64 (lv_at hl 5 rfl) ?_
    refine lv_icmp_ne (tgt := 82) hx hb dX11_goesBy_66 (by decide) (fun c9 => ?_) (fun c9 => ?_)
    · have hB := if_n hB c9
      refine lv_iload hx hb dX11_goesBy_82 (lv_at hl 0 rfl) ?_
      refine lv_aload_n hx hb dX11_goesBy_84 rfl (lv_at hl 1 rfl) ?_
      refine lv_iload_n hx hb dX11_goesBy_85 rfl (lv_at hl 4 rfl) ?_
      refine lv_iload hx hb dX11_goesBy_86 (lv_at hl 6 rfl) ?_
      obtain ⟨q_, s10, hc, hB⟩ := bindI_inv hB
      refine q_goiF (va_runV (As := [.int x3, .int x5]) (rest := [.int r8]) C (cr_thingAt hc _) (cwV 2 hts gX11_goesBy_X11_thingAt rfl rfl rfl (by decide +kernel) ⟨Nat.le_of_ble_eq_true rfl, Nat.le_of_ble_eq_true rfl⟩) (q_preV hK hP (ci := 11) (q0 := 0) rfl rfl rfl (q_preF hN hK hP hD)) rfl rfl hl.1 rfl (lv_room (Nat.le_of_ble_eq_true rfl)) dX11_goesBy_88 ⟨Nat.le_of_ble_eq_true rfl, Nat.le_of_ble_eq_true rfl⟩) hD hS hA (fun r11 w1 H locs hw hP hD hS => ?_)
      obtain ⟨hq_, hw⟩ := hw; subst hw; subst hq_
      refine lv_icmp_eq (tgt := 111) hx hb dX11_goesBy_91 (by decide) (fun c12 => ?_) (fun c12 => ?_)
      · have hB := if_p hB c12
        refine lv_aload_n hx hb dX11_goesBy_111 rfl (lv_at hl 1 rfl) ?_
        refine q_get (v := .ref (a 44)) C inX11_goesBy_X11 hK hP 0 rfl rfl 44 (by decide) rfl LX11_goesBy_101 rfl dX11_goesBy_112 ?_
        refine lv_iconst (v := 5) hx hb dX11_goesBy_115 (by decide) ?_
        refine lv_iload hx hb dX11_goesBy_116 (lv_at hl 6 rfl) ?_
        refine lv_iadd hx hb dX11_goesBy_118 ?_
        refine lv_iload hx hb dX11_goesBy_119 (lv_at hl 0 rfl) ?_
        obtain ⟨g13, hB⟩ := guard_inv hB
        obtain ⟨s14, hs15, hB⟩ := letS_inv hB
        refine q_iast (f2 := (upd (s10.f 44) (Int32.toNatClampNeg (5 + x5)) r8)) (w2 := (mwS cB cI cJ cZ h a s14)) C hK hP hD hS 28 1 rfl rfl (vpb_in g13) dX11_goesBy_121 rfl (mwS_f44 hs15) (fun H locs hP hD hS => ?_)
        refine lv_iinc (v := (x5 + 1)) (lv' := [(5, .int (x5 + 1)), (6, .int r8), (0, .ref h), (1, .int x1), (2, .int x2), (3, .int x3), (4, .int x4)]) hx hb dX11_goesBy_122 hl (k := 6) rfl (rfl) (by decide) rfl (fun ls hl => ?_)
        refine lv_goto (tgt := 39) hx hb dX11_goesBy_125 (by decide) ?_
        exact hk39 _ _ _ _ _ _ hB p e s0 m below meth c A E H locs ls hP hD hS (lv_sub hl [2, 3, 4, 5, 6, 0] rfl)
      · have hB := if_n hB c12
        refine lv_aload_n hx hb dX11_goesBy_94 rfl (lv_at hl 1 rfl) ?_
        refine q_get (v := .ref (a 44)) C inX11_goesBy_X11 hK hP 0 rfl rfl 44 (by decide) rfl LX11_goesBy_101 rfl dX11_goesBy_95 ?_
        refine lv_iload hx hb dX11_goesBy_98 (lv_at hl 6 rfl) ?_
        refine lv_dup2_11 hx hb dX11_goesBy_100 rfl rfl ?_
        obtain ⟨g16, hB⟩ := guard_inv hB
        refine q_iald (x := (s10.f 44 (Int32.toNatClampNeg x5))) C hK hP 28 1 rfl rfl (vpb_in g16) dX11_goesBy_101 rfl ?_
        refine lv_iconst (v := 1) hx hb dX11_goesBy_102 (by decide) ?_
        refine lv_iload hx hb dX11_goesBy_103 (lv_at hl 0 rfl) ?_
        refine lv_ishl hx hb dX11_goesBy_105 ?_
        refine lv_ior hx hb dX11_goesBy_106 ?_
        obtain ⟨g17, hB⟩ := guard_inv hB
        obtain ⟨s18, hs19, hB⟩ := letS_inv hB
        refine q_iast (f2 := (upd (s10.f 44) (Int32.toNatClampNeg x5) ((s10.f 44 (Int32.toNatClampNeg x5)) ||| (1 <<< (r8 &&& 31))))) (w2 := (mwS cB cI cJ cZ h a s18)) C hK hP hD hS 28 1 rfl rfl (vpb_in g17) dX11_goesBy_107 rfl (mwS_f44 hs19) (fun H locs hP hD hS => ?_)
        refine lv_iload hx hb dX11_goesBy_108 (lv_at hl 6 rfl) ?_
        exact q_iret C hr hlocks hK hP hD hS (Nat.le_of_ble_eq_true rfl) (Nat.le_of_ble_eq_true rfl) dX11_goesBy_110 (by cases hB; exact ⟨rfl, rfl⟩)
    · have hB := if_p hB c9
      refine lv_aload_n hx hb dX11_goesBy_69 rfl (lv_at hl 1 rfl) ?_
      refine q_get (v := .ref (a 44)) C inX11_goesBy_X11 hK hP 0 rfl rfl 44 (by decide) rfl LX11_goesBy_101 rfl dX11_goesBy_70 ?_
      refine lv_bipush (v := 15) hx hb dX11_goesBy_73 (by decide) ?_
      refine lv_iload_n hx hb dX11_goesBy_75 rfl (lv_at hl 2 rfl) ?_
      refine lv_iadd hx hb dX11_goesBy_76 ?_
      refine lv_iconst (v := 1) hx hb dX11_goesBy_77 (by decide) ?_
      obtain ⟨g20, hB⟩ := guard_inv hB
      obtain ⟨s21, hs22, hB⟩ := letS_inv hB
      refine q_iast (f2 := (upd (s7.f 44) (Int32.toNatClampNeg (15 + x1)) 1)) (w2 := (mwS cB cI cJ cZ h a s21)) C hK hP hD hS 28 1 rfl rfl (vpb_in g20) dX11_goesBy_78 rfl (mwS_f44 hs22) (fun H locs hP hD hS => ?_)
      refine lv_iload hx hb dX11_goesBy_79 (lv_at hl 6 rfl) ?_
      exact q_iret C hr hlocks hK hP hD hS (Nat.le_of_ble_eq_true rfl) (Nat.le_of_ble_eq_true rfl) dX11_goesBy_81 (by cases hB; exact ⟨rfl, rfl⟩)
theorem br_goesBy_39L {l : Launch} {dC : Nat → ClassId} {dI : Nat → Nat → Nat} {cB cI cJ cZ cS : ClassId} {h : Nat} {a : Nat → Nat} {as : List Value} {r : Int32} {s' : RS} : ∀ (n : Nat) (s : RS) (x1 : Int32) (x2 : Int32) (x3 : Int32) (x4 : Int32) (x5 : Int32), r_goesBy_39L n s x1 x2 x3 x4 x5 = some (r, s') → BlkI l yX11_goesBy wsX11_goesBy ({ frames := 6, cells := 0, slots := 0, locals := 135 }) cX11_goesBy 7 (some .int) (dC, dI) (tysA cB cI cJ cZ cS) as 39 (mwS cB cI cJ cZ h a s) [(0, .ref h), (1, .int x1), (2, .int x2), (3, .int x3), (4, .int x4), (5, .int x5)] [] (fun x u => x = r ∧ u = (mwS cB cI cJ cZ h a s')) := by
  intro n
  induction n with
  | zero => intro s x1 x2 x3 x4 x5 hB; exact none_ne hB
  | succ n ih => intro s x1 x2 x3 x4 x5 hB; exact br_goesBy_39 ih _ _ _ _ _ _ hB
set_option maxHeartbeats 4000000 in
set_option maxRecDepth 100000 in
theorem br_goesBy {l : Launch} {dC : Nat → ClassId} {dI : Nat → Nat → Nat} {cB cI cJ cZ cS : ClassId} {h : Nat} {a : Nat → Nat} {as : List Value} {r : Int32} {s' : RS} (s : RS) (x1 : Int32) (x2 : Int32) (x3 : Int32) (hB : r_goesBy s x1 x2 x3 = some (r, s')) : BlkI l yX11_goesBy wsX11_goesBy ({ frames := 6, cells := 0, slots := 0, locals := 135 }) cX11_goesBy 7 (some .int) (dC, dI) (tysA cB cI cJ cZ cS) as 0 (mwS cB cI cJ cZ h a s) [(0, .ref h), (1, .int x1), (2, .int x2), (3, .int x3)] [] (fun x u => x = r ∧ u = (mwS cB cI cJ cZ h a s')) := by
  intro p e s0 m below meth c A E H locs ls hP hD hS hl
  obtain ⟨C, hr, hlocks, hA, hK, hN⟩ := id E
  obtain ⟨hx, hb, hml, hown, hts⟩ := id C
  unfold r_goesBy at hB
  refine lv_aload_n hx hb dX11_goesBy_0 rfl (lv_at hl 0 rfl) ?_
  refine lv_iload_n hx hb dX11_goesBy_1 rfl (lv_at hl 1 rfl) ?_
  refine lv_iload_n hx hb dX11_goesBy_2 rfl (lv_at hl 2 rfl) ?_
  obtain ⟨q_, s1, hc, hB⟩ := bindI_inv hB
  refine q_goiF (va_runV (As := [.int x1, .int x2]) (rest := []) C (cr_bearsBy hc _) (cwV 2 hts gX11_goesBy_X11_bearsBy rfl rfl rfl (by decide +kernel) ⟨Nat.le_of_ble_eq_true rfl, Nat.le_of_ble_eq_true rfl⟩) (q_preV hK hP (ci := 11) (q0 := 0) rfl rfl rfl (q_preF hN hK hP hD)) rfl rfl hl.1 rfl (lv_room (Nat.le_of_ble_eq_true rfl)) dX11_goesBy_3 ⟨Nat.le_of_ble_eq_true rfl, Nat.le_of_ble_eq_true rfl⟩) hD hS hA (fun r2 w1 H locs hw hP hD hS => ?_)
  obtain ⟨hq_, hw⟩ := hw; subst hw; subst hq_
  refine lv_istore (lv' := [(4, .int r2), (0, .ref h), (1, .int x1), (2, .int x2), (3, .int x3)]) hx hb dX11_goesBy_6 hl (by decide) rfl (fun ls hl => ?_)
  refine lv_aload_n hx hb dX11_goesBy_8 rfl (lv_at hl 1 rfl) ?_
  refine q_get (v := .ref (a 44)) C inX11_goesBy_X11 hK hP 0 rfl rfl 44 (by decide) rfl LX11_goesBy_101 rfl dX11_goesBy_9 ?_
  refine lv_bipush (v := 28) hx hb dX11_goesBy_12 (by decide) ?_
  refine lv_dup2_11 hx hb dX11_goesBy_14 rfl rfl ?_
  refine q_iald (x := (s1.f 44 28)) C hK hP 28 1 rfl rfl (vp_lit (by decide +kernel)) dX11_goesBy_15 rfl ?_
  refine lv_aload_n hx hb dX11_goesBy_16 rfl (lv_at hl 1 rfl) ?_
  refine lv_iload_n hx hb dX11_goesBy_17 rfl (lv_at hl 2 rfl) ?_
  obtain ⟨q_, s3, hc, hB⟩ := bindI_inv hB
  refine q_goiF (va_runV (As := [.int x1]) (rest := [.int (s1.f 44 28), .int 28, .ref (a 44)]) C (cr_faresOf hc _) (cwV 1 hts gX11_goesBy_X11_faresOf rfl rfl rfl (by decide +kernel) ⟨Nat.le_of_ble_eq_true rfl, Nat.le_of_ble_eq_true rfl⟩) (q_preV hK hP (ci := 11) (q0 := 0) rfl rfl rfl (q_preF hN hK hP hD)) rfl rfl hl.1 rfl (lv_room (Nat.le_of_ble_eq_true rfl)) dX11_goesBy_18 ⟨Nat.le_of_ble_eq_true rfl, Nat.le_of_ble_eq_true rfl⟩) hD hS hA (fun r4 w1 H locs hw hP hD hS => ?_)
  obtain ⟨hq_, hw⟩ := hw; subst hw; subst hq_
  refine lv_iadd hx hb dX11_goesBy_21 ?_
  obtain ⟨s5, hs6, hB⟩ := letS_inv hB
  refine q_iast (f2 := (upd (s3.f 44) 28 ((s1.f 44 28) + r4))) (w2 := (mwS cB cI cJ cZ h a s5)) C hK hP hD hS 28 1 rfl rfl (vp_lit (by decide +kernel)) dX11_goesBy_22 rfl (mwS_f44 hs6) (fun H locs hP hD hS => ?_)
  refine lv_aload_n hx hb dX11_goesBy_23 rfl (lv_at hl 1 rfl) ?_
  refine q_get (v := .ref (a 44)) C inX11_goesBy_X11 hK hP 0 rfl rfl 44 (by decide) rfl LX11_goesBy_101 rfl dX11_goesBy_24 ?_
  refine lv_bipush (v := 21) hx hb dX11_goesBy_27 (by decide) ?_
  refine lv_iload_n hx hb dX11_goesBy_29 rfl (lv_at hl 2 rfl) ?_
  refine lv_iadd hx hb dX11_goesBy_30 ?_
  refine lv_dup2_11 hx hb dX11_goesBy_31 rfl rfl ?_
  obtain ⟨g7, hB⟩ := guard_inv hB
  refine q_iald (x := (s5.f 44 (Int32.toNatClampNeg (21 + x1)))) C hK hP 28 1 rfl rfl (vpb_in g7) dX11_goesBy_32 rfl ?_
  refine lv_iconst (v := 1) hx hb dX11_goesBy_33 (by decide) ?_
  refine lv_iadd hx hb dX11_goesBy_34 ?_
  obtain ⟨g8, hB⟩ := guard_inv hB
  obtain ⟨s9, hs10, hB⟩ := letS_inv hB
  refine q_iast (f2 := (upd (s5.f 44) (Int32.toNatClampNeg (21 + x1)) ((s5.f 44 (Int32.toNatClampNeg (21 + x1))) + 1))) (w2 := (mwS cB cI cJ cZ h a s9)) C hK hP hD hS 28 1 rfl rfl (vpb_in g8) dX11_goesBy_35 rfl (mwS_f44 hs10) (fun H locs hP hD hS => ?_)
  refine lv_iconst (v := 0) hx hb dX11_goesBy_36 (by decide) ?_
  refine lv_istore (lv' := [(5, .int 0), (4, .int r2), (0, .ref h), (1, .int x1), (2, .int x2), (3, .int x3)]) hx hb dX11_goesBy_37 hl (by decide) rfl (fun ls hl => ?_)
  exact br_goesBy_39L fu _ _ _ _ _ _ hB p e s0 m below meth c A E H locs ls hP hD hS (lv_sub hl [2, 3, 4, 5, 1, 0] rfl)
theorem cr_goesBy {l : Launch} {dC : Nat → ClassId} {dI : Nat → Nat → Nat} {cB cI cJ cZ cS : ClassId} {h : Nat} {a : Nat → Nat} {r : Int32} {s' : RS} {s : RS} {x1 : Int32} {x2 : Int32} {x3 : Int32} (hB : r_goesBy s x1 x2 x3 = some (r, s')) : CI l yX11_goesBy wsX11_goesBy ({ frames := 6, cells := 0, slots := 0, locals := 135 }) (dC, dI) (tysA cB cI cJ cZ cS) (mwS cB cI cJ cZ h a s) [.ref h, .int x1, .int x2, .int x3] (fun x u => x = r ∧ u = (mwS cB cI cJ cZ h a s')) :=
  CI_of (cc := cX11_goesBy) (maxL := 7) (ret := (some .int)) (by decide) rfl (Nat.le_of_ble_eq_true rfl) (br_goesBy _ _ _ _ hB)
theorem LX11_yearGoes_101 : Cond.fieldLink RX11 101 "GuessFerryModel" "row" "[I" ∈ wsX11_yearGoes := (List.mem_cons_of_mem _ (List.mem_append_left _ (List.mem_append_left _ (List.mem_of_getElem? (i := 3) rfl))))
theorem LX11_yearGoes_107 : Cond.fieldLink RX11 107 "GuessFerryModel" "shiftsNow" "[Z" ∈ wsX11_yearGoes := (List.mem_cons_of_mem _ (List.mem_append_left _ (List.mem_append_left _ (List.mem_of_getElem? (i := 2) rfl))))
theorem LX11_yearGoes_215 : Cond.fieldLink RX11 215 "GuessFerryModel" "live" "I" ∈ wsX11_yearGoes := (List.mem_cons_of_mem _ (List.mem_append_left _ (List.mem_append_left _ (List.mem_of_getElem? (i := 1) rfl))))
theorem LX11_yearGoes_40 : Cond.fieldLink RX11 40 "GuessFerryModel" "waves" "[I" ∈ wsX11_yearGoes := (List.mem_cons_of_mem _ (List.mem_append_left _ (List.mem_append_left _ (List.mem_of_getElem? (i := 0) rfl))))
theorem LX11_yearGoes_K342 : Cond.constant RX11 342 1000000 ∈ wsX11_yearGoes := (List.mem_cons_of_mem _ (List.mem_append_left _ (List.mem_append_left _ (List.mem_of_getElem? (i := 4) rfl))))
theorem inX11_yearGoes_X11 : ∀ w ∈ u_ws RX11 TX11 58, w ∈ wsX11_yearGoes := fun w h => (List.mem_cons_of_mem _ (List.mem_append_right _ h))
set_option maxHeartbeats 4000000 in
set_option maxRecDepth 100000 in
theorem br_yearGoes_119 {l : Launch} {dC : Nat → ClassId} {dI : Nat → Nat → Nat} {cB cI cJ cZ cS : ClassId} {h : Nat} {a : Nat → Nat} {as : List Value} {s' : RS} {k64 : RS → Int32 → Option RS} (hk64 : ∀ (s : RS) (x1 : Int32), k64 s x1 = some s' → BlkV l yX11_yearGoes wsX11_yearGoes ({ frames := 4, cells := 0, slots := 0, locals := 87 }) cX11_yearGoes 2 none (dC, dI) (tysA cB cI cJ cZ cS) as 64 (mwS cB cI cJ cZ h a s) [(0, .ref h), (1, .int x1)] [] (fun u => u = (mwS cB cI cJ cZ h a s'))) (s : RS) (x1 : Int32) (hB : r_yearGoes_119 k64 s x1 = some s') : BlkV l yX11_yearGoes wsX11_yearGoes ({ frames := 4, cells := 0, slots := 0, locals := 87 }) cX11_yearGoes 2 none (dC, dI) (tysA cB cI cJ cZ cS) as 119 (mwS cB cI cJ cZ h a s) [(0, .ref h), (1, .int x1)] [] (fun u => u = (mwS cB cI cJ cZ h a s')) := by
  intro p e s0 m below meth c A E H locs ls hP hD hS hl
  obtain ⟨C, hr, hlocks, hA, hK, hN⟩ := id E
  obtain ⟨hx, hb, hml, hown, hts⟩ := id C
  unfold r_yearGoes_119 at hB
  refine lv_iinc (v := (x1 + 1)) (lv' := [(1, .int (x1 + 1)), (0, .ref h)]) hx hb dX11_yearGoes_119 hl (k := 1) rfl (rfl) (by decide) rfl (fun ls hl => ?_)
  refine lv_goto (tgt := 64) hx hb dX11_yearGoes_122 (by decide) ?_
  exact hk64 _ _ hB p e s0 m below meth c A E H locs ls hP hD hS (lv_sub hl [1, 0] rfl)
set_option maxHeartbeats 4000000 in
set_option maxRecDepth 100000 in
theorem br_yearGoes_64 {l : Launch} {dC : Nat → ClassId} {dI : Nat → Nat → Nat} {cB cI cJ cZ cS : ClassId} {h : Nat} {a : Nat → Nat} {as : List Value} {s' : RS} {k64 : RS → Int32 → Option RS} (hk64 : ∀ (s : RS) (x1 : Int32), k64 s x1 = some s' → BlkV l yX11_yearGoes wsX11_yearGoes ({ frames := 4, cells := 0, slots := 0, locals := 87 }) cX11_yearGoes 2 none (dC, dI) (tysA cB cI cJ cZ cS) as 64 (mwS cB cI cJ cZ h a s) [(0, .ref h), (1, .int x1)] [] (fun u => u = (mwS cB cI cJ cZ h a s'))) (s : RS) (x1 : Int32) (hB : r_yearGoes_64 k64 s x1 = some s') : BlkV l yX11_yearGoes wsX11_yearGoes ({ frames := 4, cells := 0, slots := 0, locals := 87 }) cX11_yearGoes 2 none (dC, dI) (tysA cB cI cJ cZ cS) as 64 (mwS cB cI cJ cZ h a s) [(0, .ref h), (1, .int x1)] [] (fun u => u = (mwS cB cI cJ cZ h a s')) := by
  intro p e s0 m below meth c A E H locs ls hP hD hS hl
  obtain ⟨C, hr, hlocks, hA, hK, hN⟩ := id E
  obtain ⟨hx, hb, hml, hown, hts⟩ := id C
  unfold r_yearGoes_64 at hB
  refine lv_iload_n hx hb dX11_yearGoes_64 rfl (lv_at hl 1 rfl) ?_
  refine lv_aload_n hx hb dX11_yearGoes_65 rfl (lv_at hl 0 rfl) ?_
  refine q_get (v := .ref (a 20)) C inX11_yearGoes_X11 hK hP 0 rfl rfl 20 (by decide) rfl LX11_yearGoes_40 rfl dX11_yearGoes_66 ?_
  refine lv_aload_n hx hb dX11_yearGoes_69 rfl (lv_at hl 0 rfl) ?_
  refine q_get (v := .int (s.v 18)) C inX11_yearGoes_X11 hK hP 0 rfl rfl 18 (by decide) rfl LX11_yearGoes_215 rfl dX11_yearGoes_70 ?_
  obtain ⟨g1, hB⟩ := guard_inv hB
  refine q_iald (x := (s.f 20 (Int32.toNatClampNeg (s.v 18)))) C hK hP 8 1 rfl rfl (vpb_in g1) dX11_yearGoes_73 rfl ?_
  refine lv_icmp_ge (tgt := 125) hx hb dX11_yearGoes_74 (by decide) (fun c2 => ?_) (fun c2 => ?_)
  · have hB := if_p hB c2
    refine lv_aload_n hx hb dX11_yearGoes_125 rfl (lv_at hl 0 rfl) ?_
    refine q_get (v := .ref (a 44)) C inX11_yearGoes_X11 hK hP 0 rfl rfl 44 (by decide) rfl LX11_yearGoes_101 rfl dX11_yearGoes_126 ?_
    refine lv_bipush (v := 27) hx hb dX11_yearGoes_129 (by decide) ?_
    refine lv_dup2_11 hx hb dX11_yearGoes_131 rfl rfl ?_
    refine q_iald (x := (s.f 44 27)) C hK hP 28 1 rfl rfl (vp_lit (by decide +kernel)) dX11_yearGoes_132 rfl ?_
    refine lv_iconst (v := 1) hx hb dX11_yearGoes_133 (by decide) ?_
    refine lv_iadd hx hb dX11_yearGoes_134 ?_
    obtain ⟨s3, hs4, hB⟩ := letS_inv hB
    refine q_iast (f2 := (upd (s.f 44) 27 ((s.f 44 27) + 1))) (w2 := (mwS cB cI cJ cZ h a s3)) C hK hP hD hS 28 1 rfl rfl (vp_lit (by decide +kernel)) dX11_yearGoes_135 rfl (mwS_f44 hs4) (fun H locs hP hD hS => ?_)
    exact q_vret C hr hlocks hK hP hD hS (Nat.le_of_ble_eq_true rfl) (Nat.le_of_ble_eq_true rfl) dX11_yearGoes_136 (by cases hB; rfl)
  · have hB := if_n hB c2
    refine lv_aload_n hx hb dX11_yearGoes_77 rfl (lv_at hl 0 rfl) ?_
    refine q_get (v := .ref (a 47)) C inX11_yearGoes_X11 hK hP 0 rfl rfl 47 (by decide) rfl LX11_yearGoes_107 rfl dX11_yearGoes_78 ?_
    refine lv_iload_n hx hb dX11_yearGoes_81 rfl (lv_at hl 1 rfl) ?_
    obtain ⟨g5, hB⟩ := guard_inv hB
    refine q_zald (x := (s.f 47 (Int32.toNatClampNeg x1))) C hK hP 30 3 rfl rfl (vpb_in g5) dX11_yearGoes_82 rfl ?_
    refine lv_if_ne (tgt := 89) hx hb dX11_yearGoes_83 (by decide) (fun c6 => ?_) (fun c6 => ?_)
    · have hB := if_n hB c6
      refine lv_aload_n hx hb dX11_yearGoes_89 rfl (lv_at hl 0 rfl) ?_
      refine q_get (v := .ref (a 44)) C inX11_yearGoes_X11 hK hP 0 rfl rfl 44 (by decide) rfl LX11_yearGoes_101 rfl dX11_yearGoes_90 ?_
      refine lv_iload_n hx hb dX11_yearGoes_93 rfl (lv_at hl 1 rfl) ?_
      refine lv_iconst (v := 0) hx hb dX11_yearGoes_94 (by decide) ?_
      obtain ⟨g7, hB⟩ := guard_inv hB
      obtain ⟨s8, hs9, hB⟩ := letS_inv hB
      refine q_iast (f2 := (upd (s.f 44) (Int32.toNatClampNeg x1) 0)) (w2 := (mwS cB cI cJ cZ h a s8)) C hK hP hD hS 28 1 rfl rfl (vpb_in g7) dX11_yearGoes_95 rfl (mwS_f44 hs9) (fun H locs hP hD hS => ?_)
      refine lv_aload_n hx hb dX11_yearGoes_96 rfl (lv_at hl 0 rfl) ?_
      refine q_get (v := .ref (a 44)) C inX11_yearGoes_X11 hK hP 0 rfl rfl 44 (by decide) rfl LX11_yearGoes_101 rfl dX11_yearGoes_97 ?_
      refine lv_iconst (v := 5) hx hb dX11_yearGoes_100 (by decide) ?_
      refine lv_iload_n hx hb dX11_yearGoes_101 rfl (lv_at hl 1 rfl) ?_
      refine lv_iadd hx hb dX11_yearGoes_102 ?_
      refine lv_bipush (v := (-2)) hx hb dX11_yearGoes_103 (by decide) ?_
      obtain ⟨g10, hB⟩ := guard_inv hB
      obtain ⟨s11, hs12, hB⟩ := letS_inv hB
      refine q_iast (f2 := (upd (s8.f 44) (Int32.toNatClampNeg (5 + x1)) (-2))) (w2 := (mwS cB cI cJ cZ h a s11)) C hK hP hD hS 28 1 rfl rfl (vpb_in g10) dX11_yearGoes_105 rfl (mwS_f44 hs12) (fun H locs hP hD hS => ?_)
      refine lv_aload_n hx hb dX11_yearGoes_106 rfl (lv_at hl 0 rfl) ?_
      refine q_get (v := .ref (a 44)) C inX11_yearGoes_X11 hK hP 0 rfl rfl 44 (by decide) rfl LX11_yearGoes_101 rfl dX11_yearGoes_107 ?_
      refine lv_bipush (v := 10) hx hb dX11_yearGoes_110 (by decide) ?_
      refine lv_iload_n hx hb dX11_yearGoes_112 rfl (lv_at hl 1 rfl) ?_
      refine lv_iadd hx hb dX11_yearGoes_113 ?_
      refine lv_dup2_11 hx hb dX11_yearGoes_114 rfl rfl ?_
      obtain ⟨g13, hB⟩ := guard_inv hB
      refine q_iald (x := (s11.f 44 (Int32.toNatClampNeg (10 + x1)))) C hK hP 28 1 rfl rfl (vpb_in g13) dX11_yearGoes_115 rfl ?_
      refine lv_iconst (v := 1) hx hb dX11_yearGoes_116 (by decide) ?_
      refine lv_iadd hx hb dX11_yearGoes_117 ?_
      obtain ⟨g14, hB⟩ := guard_inv hB
      obtain ⟨s15, hs16, hB⟩ := letS_inv hB
      refine q_iast (f2 := (upd (s11.f 44) (Int32.toNatClampNeg (10 + x1)) ((s11.f 44 (Int32.toNatClampNeg (10 + x1))) + 1))) (w2 := (mwS cB cI cJ cZ h a s15)) C hK hP hD hS 28 1 rfl rfl (vpb_in g14) dX11_yearGoes_118 rfl (mwS_f44 hs16) (fun H locs hP hD hS => ?_)
      exact br_yearGoes_119 (hk64) _ _ hB p e s0 m below meth c A E H locs ls hP hD hS (lv_sub hl [0, 1] rfl)
    · have hB := if_p hB c6
      refine lv_goto (tgt := 119) hx hb dX11_yearGoes_86 (by decide) ?_
      exact br_yearGoes_119 (hk64) _ _ hB p e s0 m below meth c A E H locs ls hP hD hS (lv_sub hl [0, 1] rfl)
theorem br_yearGoes_64L {l : Launch} {dC : Nat → ClassId} {dI : Nat → Nat → Nat} {cB cI cJ cZ cS : ClassId} {h : Nat} {a : Nat → Nat} {as : List Value} {s' : RS} : ∀ (n : Nat) (s : RS) (x1 : Int32), r_yearGoes_64L n s x1 = some s' → BlkV l yX11_yearGoes wsX11_yearGoes ({ frames := 4, cells := 0, slots := 0, locals := 87 }) cX11_yearGoes 2 none (dC, dI) (tysA cB cI cJ cZ cS) as 64 (mwS cB cI cJ cZ h a s) [(0, .ref h), (1, .int x1)] [] (fun u => u = (mwS cB cI cJ cZ h a s')) := by
  intro n
  induction n with
  | zero => intro s x1 hB; exact none_ne hB
  | succ n ih => intro s x1 hB; exact br_yearGoes_64 ih _ _ hB
set_option maxHeartbeats 4000000 in
set_option maxRecDepth 100000 in
theorem br_yearGoes_55 {l : Launch} {dC : Nat → ClassId} {dI : Nat → Nat → Nat} {cB cI cJ cZ cS : ClassId} {h : Nat} {a : Nat → Nat} {as : List Value} {s' : RS} {k2 : RS → Int32 → Option RS} (hk2 : ∀ (s : RS) (x1 : Int32), k2 s x1 = some s' → BlkV l yX11_yearGoes wsX11_yearGoes ({ frames := 4, cells := 0, slots := 0, locals := 87 }) cX11_yearGoes 2 none (dC, dI) (tysA cB cI cJ cZ cS) as 2 (mwS cB cI cJ cZ h a s) [(0, .ref h), (1, .int x1)] [] (fun u => u = (mwS cB cI cJ cZ h a s'))) (s : RS) (x1 : Int32) (t0 : Int32) (t1 : Int32) (hB : r_yearGoes_55 k2 s x1 t0 t1 = some s') : BlkV l yX11_yearGoes wsX11_yearGoes ({ frames := 4, cells := 0, slots := 0, locals := 87 }) cX11_yearGoes 2 none (dC, dI) (tysA cB cI cJ cZ cS) as 55 (mwS cB cI cJ cZ h a s) [(0, .ref h), (1, .int x1)] [.int t0, .int t1, .ref (a 47)] (fun u => u = (mwS cB cI cJ cZ h a s')) := by
  intro p e s0 m below meth c A E H locs ls hP hD hS hl
  obtain ⟨C, hr, hlocks, hA, hK, hN⟩ := id E
  obtain ⟨hx, hb, hml, hown, hts⟩ := id C
  unfold r_yearGoes_55 at hB
  obtain ⟨g1, hB⟩ := guard_inv hB
  obtain ⟨s2, hs3, hB⟩ := letS_inv hB
  refine q_zast (f2 := (upd (s.f 47) (Int32.toNatClampNeg t1) (vp_nar .boolean t0))) (w2 := (mwS cB cI cJ cZ h a s2)) C hK hP hD hS 30 3 rfl rfl (vpb_in g1) dX11_yearGoes_55 rfl (mwS_f47 hs3) (fun H locs hP hD hS => ?_)
  refine lv_iinc (v := (x1 + 1)) (lv' := [(1, .int (x1 + 1)), (0, .ref h)]) hx hb dX11_yearGoes_56 hl (k := 1) rfl (rfl) (by decide) rfl (fun ls hl => ?_)
  refine lv_goto (tgt := 2) hx hb dX11_yearGoes_59 (by decide) ?_
  exact hk2 _ _ hB p e s0 m below meth c A E H locs ls hP hD hS (lv_sub hl [1, 0] rfl)
set_option maxHeartbeats 4000000 in
set_option maxRecDepth 100000 in
theorem br_yearGoes_2 {l : Launch} {dC : Nat → ClassId} {dI : Nat → Nat → Nat} {cB cI cJ cZ cS : ClassId} {h : Nat} {a : Nat → Nat} {as : List Value} {s' : RS} {k2 : RS → Int32 → Option RS} (hk2 : ∀ (s : RS) (x1 : Int32), k2 s x1 = some s' → BlkV l yX11_yearGoes wsX11_yearGoes ({ frames := 4, cells := 0, slots := 0, locals := 87 }) cX11_yearGoes 2 none (dC, dI) (tysA cB cI cJ cZ cS) as 2 (mwS cB cI cJ cZ h a s) [(0, .ref h), (1, .int x1)] [] (fun u => u = (mwS cB cI cJ cZ h a s'))) (s : RS) (x1 : Int32) (hB : r_yearGoes_2 k2 s x1 = some s') : BlkV l yX11_yearGoes wsX11_yearGoes ({ frames := 4, cells := 0, slots := 0, locals := 87 }) cX11_yearGoes 2 none (dC, dI) (tysA cB cI cJ cZ cS) as 2 (mwS cB cI cJ cZ h a s) [(0, .ref h), (1, .int x1)] [] (fun u => u = (mwS cB cI cJ cZ h a s')) := by
  intro p e s0 m below meth c A E H locs ls hP hD hS hl
  obtain ⟨C, hr, hlocks, hA, hK, hN⟩ := id E
  obtain ⟨hx, hb, hml, hown, hts⟩ := id C
  unfold r_yearGoes_2 at hB
  refine lv_iload_n hx hb dX11_yearGoes_2 rfl (lv_at hl 1 rfl) ?_
  refine lv_aload_n hx hb dX11_yearGoes_3 rfl (lv_at hl 0 rfl) ?_
  refine q_get (v := .ref (a 20)) C inX11_yearGoes_X11 hK hP 0 rfl rfl 20 (by decide) rfl LX11_yearGoes_40 rfl dX11_yearGoes_4 ?_
  refine lv_aload_n hx hb dX11_yearGoes_7 rfl (lv_at hl 0 rfl) ?_
  refine q_get (v := .int (s.v 18)) C inX11_yearGoes_X11 hK hP 0 rfl rfl 18 (by decide) rfl LX11_yearGoes_215 rfl dX11_yearGoes_8 ?_
  obtain ⟨g1, hB⟩ := guard_inv hB
  refine q_iald (x := (s.f 20 (Int32.toNatClampNeg (s.v 18)))) C hK hP 8 1 rfl rfl (vpb_in g1) dX11_yearGoes_11 rfl ?_
  refine lv_icmp_ge (tgt := 62) hx hb dX11_yearGoes_12 (by decide) (fun c2 => ?_) (fun c2 => ?_)
  · have hB := if_p hB c2
    refine lv_iconst (v := 0) hx hb dX11_yearGoes_62 (by decide) ?_
    refine lv_istore_n (lv' := [(1, .int 0), (0, .ref h)]) hx hb dX11_yearGoes_63 rfl hl (by decide) rfl (fun ls hl => ?_)
    exact br_yearGoes_64L fu _ _ hB p e s0 m below meth c A E H locs ls hP hD hS (lv_sub hl [1, 0] rfl)
  · have hB := if_n hB c2
    refine lv_aload_n hx hb dX11_yearGoes_15 rfl (lv_at hl 0 rfl) ?_
    refine q_get (v := .ref (a 47)) C inX11_yearGoes_X11 hK hP 0 rfl rfl 47 (by decide) rfl LX11_yearGoes_107 rfl dX11_yearGoes_16 ?_
    refine lv_iload_n hx hb dX11_yearGoes_19 rfl (lv_at hl 1 rfl) ?_
    refine lv_aload_n hx hb dX11_yearGoes_20 rfl (lv_at hl 0 rfl) ?_
    refine lv_bipush (v := 8) hx hb dX11_yearGoes_21 (by decide) ?_
    refine lv_aload_n hx hb dX11_yearGoes_23 rfl (lv_at hl 0 rfl) ?_
    refine q_get (v := .ref (a 44)) C inX11_yearGoes_X11 hK hP 0 rfl rfl 44 (by decide) rfl LX11_yearGoes_101 rfl dX11_yearGoes_24 ?_
    refine lv_bipush (v := 27) hx hb dX11_yearGoes_27 (by decide) ?_
    refine q_iald (x := (s.f 44 27)) C hK hP 28 1 rfl rfl (vp_lit (by decide +kernel)) dX11_yearGoes_29 rfl ?_
    refine lv_imul hx hb dX11_yearGoes_30 ?_
    refine lv_ldcw (v := 1000000) hx hb hown (hts _ LX11_yearGoes_K342) dX11_yearGoes_31 ?_
    refine lv_iadd hx hb dX11_yearGoes_34 ?_
    refine lv_iload_n hx hb dX11_yearGoes_35 rfl (lv_at hl 1 rfl) ?_
    refine lv_iadd hx hb dX11_yearGoes_36 ?_
    refine lv_bipush (v := 100) hx hb dX11_yearGoes_37 (by decide) ?_
    obtain ⟨q_, s3, hc, hB⟩ := bindI_inv hB
    refine q_goiF (va_runV (As := [.int (((8 * (s.f 44 27)) + 1000000) + x1), .int 100]) (rest := [.int x1, .ref (a 47)]) C (cr_lotOf hc _) (cwV 2 hts gX11_yearGoes_X11_lotOf rfl rfl rfl (by decide +kernel) ⟨Nat.le_of_ble_eq_true rfl, Nat.le_of_ble_eq_true rfl⟩) (q_preV hK hP (ci := 11) (q0 := 0) rfl rfl rfl (q_preF hN hK hP hD)) rfl rfl hl.1 rfl (lv_room (Nat.le_of_ble_eq_true rfl)) dX11_yearGoes_39 ⟨Nat.le_of_ble_eq_true rfl, Nat.le_of_ble_eq_true rfl⟩) hD hS hA (fun r4 w1 H locs hw hP hD hS => ?_)
    obtain ⟨hq_, hw⟩ := hw; subst hw; subst hq_
    refine lv_aload_n hx hb dX11_yearGoes_42 rfl (lv_at hl 0 rfl) ?_
    refine lv_iload_n hx hb dX11_yearGoes_43 rfl (lv_at hl 1 rfl) ?_
    obtain ⟨q_, s5, hc, hB⟩ := bindI_inv hB
    refine q_goiF (va_runV (As := [.int x1]) (rest := [.int r4, .int x1, .ref (a 47)]) C (cr_shiftsOf hc _) (cwV 1 hts gX11_yearGoes_X11_shiftsOf rfl rfl rfl (by decide +kernel) ⟨Nat.le_of_ble_eq_true rfl, Nat.le_of_ble_eq_true rfl⟩) (q_preV hK hP (ci := 11) (q0 := 0) rfl rfl rfl (q_preF hN hK hP hD)) rfl rfl hl.1 rfl (lv_room (Nat.le_of_ble_eq_true rfl)) dX11_yearGoes_44 ⟨Nat.le_of_ble_eq_true rfl, Nat.le_of_ble_eq_true rfl⟩) hD hS hA (fun r6 w1 H locs hw hP hD hS => ?_)
    obtain ⟨hq_, hw⟩ := hw; subst hw; subst hq_
    refine lv_icmp_ge (tgt := 54) hx hb dX11_yearGoes_47 (by decide) (fun c7 => ?_) (fun c7 => ?_)
    · have hB := if_p hB c7
      refine lv_iconst (v := 0) hx hb dX11_yearGoes_54 (by decide) ?_
      exact br_yearGoes_55 (hk2) _ _ _ _ hB p e s0 m below meth c A E H locs ls hP hD hS (lv_sub hl [0, 1] rfl)
    · have hB := if_n hB c7
      refine lv_iconst (v := 1) hx hb dX11_yearGoes_50 (by decide) ?_
      refine lv_goto (tgt := 55) hx hb dX11_yearGoes_51 (by decide) ?_
      exact br_yearGoes_55 (hk2) _ _ _ _ hB p e s0 m below meth c A E H locs ls hP hD hS (lv_sub hl [0, 1] rfl)
theorem br_yearGoes_2L {l : Launch} {dC : Nat → ClassId} {dI : Nat → Nat → Nat} {cB cI cJ cZ cS : ClassId} {h : Nat} {a : Nat → Nat} {as : List Value} {s' : RS} : ∀ (n : Nat) (s : RS) (x1 : Int32), r_yearGoes_2L n s x1 = some s' → BlkV l yX11_yearGoes wsX11_yearGoes ({ frames := 4, cells := 0, slots := 0, locals := 87 }) cX11_yearGoes 2 none (dC, dI) (tysA cB cI cJ cZ cS) as 2 (mwS cB cI cJ cZ h a s) [(0, .ref h), (1, .int x1)] [] (fun u => u = (mwS cB cI cJ cZ h a s')) := by
  intro n
  induction n with
  | zero => intro s x1 hB; exact none_ne hB
  | succ n ih => intro s x1 hB; exact br_yearGoes_2 ih _ _ hB
set_option maxHeartbeats 4000000 in
set_option maxRecDepth 100000 in
theorem br_yearGoes {l : Launch} {dC : Nat → ClassId} {dI : Nat → Nat → Nat} {cB cI cJ cZ cS : ClassId} {h : Nat} {a : Nat → Nat} {as : List Value} {s' : RS} (s : RS) (hB : r_yearGoes s = some s') : BlkV l yX11_yearGoes wsX11_yearGoes ({ frames := 4, cells := 0, slots := 0, locals := 87 }) cX11_yearGoes 2 none (dC, dI) (tysA cB cI cJ cZ cS) as 0 (mwS cB cI cJ cZ h a s) [(0, .ref h)] [] (fun u => u = (mwS cB cI cJ cZ h a s')) := by
  intro p e s0 m below meth c A E H locs ls hP hD hS hl
  obtain ⟨C, hr, hlocks, hA, hK, hN⟩ := id E
  obtain ⟨hx, hb, hml, hown, hts⟩ := id C
  unfold r_yearGoes at hB
  refine lv_iconst (v := 0) hx hb dX11_yearGoes_0 (by decide) ?_
  refine lv_istore_n (lv' := [(1, .int 0), (0, .ref h)]) hx hb dX11_yearGoes_1 rfl hl (by decide) rfl (fun ls hl => ?_)
  exact br_yearGoes_2L fu _ _ hB p e s0 m below meth c A E H locs ls hP hD hS (lv_sub hl [1, 0] rfl)
theorem cr_yearGoes {l : Launch} {dC : Nat → ClassId} {dI : Nat → Nat → Nat} {cB cI cJ cZ cS : ClassId} {h : Nat} {a : Nat → Nat} {s' : RS} {s : RS} (hB : r_yearGoes s = some s') : CV l yX11_yearGoes wsX11_yearGoes ({ frames := 4, cells := 0, slots := 0, locals := 87 }) (dC, dI) (tysA cB cI cJ cZ cS) (mwS cB cI cJ cZ h a s) [.ref h] (fun u => u = (mwS cB cI cJ cZ h a s')) :=
  CV_of (cc := cX11_yearGoes) (maxL := 2) (ret := none) (by decide) rfl (Nat.le_of_ble_eq_true rfl) (br_yearGoes _ hB)
end
section
theorem ggX11_yearsGo_X11_yearGoes : GoodIn wsX11_yearsGo wsX11_yearGoes := gi_sub (fun w h => List.mem_cons_of_mem _ (List.mem_append_left _ (List.mem_append_right _ h))) gd_wsX11_yearGoes
set_option maxRecDepth 20000 in
theorem gX11_yearsGo_X11_yearGoes : GoodIn wsX11_yearsGo (wsV RX11 346 RX11 yX11_yearGoes wsX11_yearGoes) := goodIn_app (goodIn_r _ [1, 2, 3, 4] (by decide +kernel) (by decide +kernel)) ggX11_yearsGo_X11_yearGoes
theorem dX11_yearsGo_0 : decode cX11_yearsGo 0 = .ok (.iconst 0, 1) := dc1_3 (by decide +kernel)
theorem dX11_yearsGo_1 : decode cX11_yearsGo 1 = .ok (.istore_n 2, 1) := dc1_61 (by decide +kernel)
theorem dX11_yearsGo_2 : decode cX11_yearsGo 2 = .ok (.iload_n 2, 1) := dc1_28 (by decide +kernel)
theorem dX11_yearsGo_3 : decode cX11_yearsGo 3 = .ok (.iload_n 1, 1) := dc1_27 (by decide +kernel)
theorem dX11_yearsGo_4 : decode cX11_yearsGo 4 = .ok (.if_icmp .ge 13, 3) := dcs_162 (n := 13) (by decide +kernel)
theorem dX11_yearsGo_7 : decode cX11_yearsGo 7 = .ok (.aload_n 0, 1) := dc1_42 (by decide +kernel)
theorem dX11_yearsGo_8 : decode cX11_yearsGo 8 = .ok (.invokevirtual 346, 3) := dcw_182 (by decide +kernel)
theorem dX11_yearsGo_11 : decode cX11_yearsGo 11 = .ok (.iinc 2 1, 3) := dc_iinc (m := 1) (by decide +kernel)
theorem dX11_yearsGo_14 : decode cX11_yearsGo 14 = .ok (.goto (-12), 3) := dcs_167 (n := 65524) (by decide +kernel)
theorem dX11_yearsGo_17 : decode cX11_yearsGo 17 = .ok (.return_, 1) := dc1_177 (by decide +kernel)
theorem ggX11_wave_X11_isWave : GoodIn wsX11_wave wsX11_isWave := gi_sub (fun w h => List.mem_cons_of_mem _ (List.mem_append_left _ (List.mem_append_right _ (List.mem_append_left _ h)))) gd_wsX11_isWave
set_option maxRecDepth 20000 in
theorem gX11_wave_X11_isWave : GoodIn wsX11_wave (wsV RX11 349 RX11 yX11_isWave wsX11_isWave) := goodIn_app (goodIn_r _ [2, 3, 4, 5] (by decide +kernel) (by decide +kernel)) ggX11_wave_X11_isWave
theorem ggX11_wave_X11_copies : GoodIn wsX11_wave wsX11_copies := gi_sub (fun w h => List.mem_cons_of_mem _ (List.mem_append_left _ (List.mem_append_right _ (List.mem_append_right _ (List.mem_append_left _ h))))) gd_wsX11_copies
set_option maxRecDepth 20000 in
theorem gX11_wave_X11_copies : GoodIn wsX11_wave (wsV RX11 352 RX11 yX11_copies wsX11_copies) := goodIn_app (goodIn_r _ [6, 7, 8, 5] (by decide +kernel) (by decide +kernel)) ggX11_wave_X11_copies
theorem ggX11_wave_X11_mayAt : GoodIn wsX11_wave wsX11_mayAt := gi_sub (fun w h => List.mem_cons_of_mem _ (List.mem_append_left _ (List.mem_append_right _ (List.mem_append_right _ (List.mem_append_right _ (List.mem_append_left _ h)))))) gd_wsX11_mayAt
set_option maxRecDepth 20000 in
theorem gX11_wave_X11_mayAt : GoodIn wsX11_wave (wsV RX11 309 RX11 yX11_mayAt wsX11_mayAt) := goodIn_app (goodIn_r _ [9, 10, 11, 5] (by decide +kernel) (by decide +kernel)) ggX11_wave_X11_mayAt
theorem ggX11_wave_X11_thereAt : GoodIn wsX11_wave wsX11_thereAt := gi_sub (fun w h => List.mem_cons_of_mem _ (List.mem_append_left _ (List.mem_append_right _ (List.mem_append_right _ (List.mem_append_right _ (List.mem_append_right _ (List.mem_append_left _ h))))))) gd_wsX11_thereAt
set_option maxRecDepth 20000 in
theorem gX11_wave_X11_thereAt : GoodIn wsX11_wave (wsV RX11 303 RX11 yX11_thereAt wsX11_thereAt) := goodIn_app (goodIn_r _ [12, 13, 14, 5] (by decide +kernel) (by decide +kernel)) ggX11_wave_X11_thereAt
theorem ggX11_wave_X11_shiftsOf : GoodIn wsX11_wave wsX11_shiftsOf := gi_sub (fun w h => List.mem_cons_of_mem _ (List.mem_append_left _ (List.mem_append_right _ (List.mem_append_right _ (List.mem_append_right _ (List.mem_append_right _ (List.mem_append_right _ h))))))) gd_wsX11_shiftsOf
set_option maxRecDepth 20000 in
theorem gX11_wave_X11_shiftsOf : GoodIn wsX11_wave (wsV RX11 343 RX11 yX11_shiftsOf wsX11_shiftsOf) := goodIn_app (goodIn_r _ [15, 16, 17, 5] (by decide +kernel) (by decide +kernel)) ggX11_wave_X11_shiftsOf
theorem dX11_wave_0 : decode cX11_wave 0 = .ok (.aload_n 0, 1) := dc1_42 (by decide +kernel)
theorem dX11_wave_1 : decode cX11_wave 1 = .ok (.iload_n 1, 1) := dc1_27 (by decide +kernel)
theorem dX11_wave_2 : decode cX11_wave 2 = .ok (.invokevirtual 349, 3) := dcw_182 (by decide +kernel)
theorem dX11_wave_5 : decode cX11_wave 5 = .ok (.ifCond .ne 5, 3) := dcs_154 (n := 5) (by decide +kernel)
theorem dX11_wave_8 : decode cX11_wave 8 = .ok (.iconst (-1), 1) := dc1_2 (by decide +kernel)
theorem dX11_wave_9 : decode cX11_wave 9 = .ok (.ireturn, 1) := dc1_172 (by decide +kernel)
theorem dX11_wave_10 : decode cX11_wave 10 = .ok (.aload_n 0, 1) := dc1_42 (by decide +kernel)
theorem dX11_wave_11 : decode cX11_wave 11 = .ok (.invokevirtual 352, 3) := dcw_182 (by decide +kernel)
theorem dX11_wave_14 : decode cX11_wave 14 = .ok (.iload_n 2, 1) := dc1_28 (by decide +kernel)
theorem dX11_wave_15 : decode cX11_wave 15 = .ok (.tableswitch 81 0 5 #[37, 43, 52, 59, 69, 75], 37) := by decide +kernel
theorem dX11_wave_52 : decode cX11_wave 52 = .ok (.aload_n 0, 1) := dc1_42 (by decide +kernel)
theorem dX11_wave_53 : decode cX11_wave 53 = .ok (.iload_n 1, 1) := dc1_27 (by decide +kernel)
theorem dX11_wave_54 : decode cX11_wave 54 = .ok (.invokevirtual 309, 3) := dcw_182 (by decide +kernel)
theorem dX11_wave_57 : decode cX11_wave 57 = .ok (.ireturn, 1) := dc1_172 (by decide +kernel)
theorem dX11_wave_58 : decode cX11_wave 58 = .ok (.aload_n 0, 1) := dc1_42 (by decide +kernel)
theorem dX11_wave_59 : decode cX11_wave 59 = .ok (.getfield 101, 3) := dcw_180 (by decide +kernel)
theorem dX11_wave_62 : decode cX11_wave 62 = .ok (.iconst 5, 1) := dc1_8 (by decide +kernel)
theorem dX11_wave_63 : decode cX11_wave 63 = .ok (.iload_n 1, 1) := dc1_27 (by decide +kernel)
theorem dX11_wave_64 : decode cX11_wave 64 = .ok (.iadd, 1) := dc1_96 (by decide +kernel)
theorem dX11_wave_65 : decode cX11_wave 65 = .ok (.iaload, 1) := dc1_46 (by decide +kernel)
theorem dX11_wave_66 : decode cX11_wave 66 = .ok (.ireturn, 1) := dc1_172 (by decide +kernel)
theorem dX11_wave_67 : decode cX11_wave 67 = .ok (.aload_n 0, 1) := dc1_42 (by decide +kernel)
theorem dX11_wave_68 : decode cX11_wave 68 = .ok (.getfield 101, 3) := dcw_180 (by decide +kernel)
theorem dX11_wave_71 : decode cX11_wave 71 = .ok (.iload_n 1, 1) := dc1_27 (by decide +kernel)
theorem dX11_wave_72 : decode cX11_wave 72 = .ok (.iaload, 1) := dc1_46 (by decide +kernel)
theorem dX11_wave_73 : decode cX11_wave 73 = .ok (.ireturn, 1) := dc1_172 (by decide +kernel)
theorem dX11_wave_74 : decode cX11_wave 74 = .ok (.aload_n 0, 1) := dc1_42 (by decide +kernel)
theorem dX11_wave_75 : decode cX11_wave 75 = .ok (.getfield 101, 3) := dcw_180 (by decide +kernel)
theorem dX11_wave_78 : decode cX11_wave 78 = .ok (.bipush 10, 2) := dcb_16 (n := 10) (by decide +kernel)
theorem dX11_wave_80 : decode cX11_wave 80 = .ok (.iload_n 1, 1) := dc1_27 (by decide +kernel)
theorem dX11_wave_81 : decode cX11_wave 81 = .ok (.iadd, 1) := dc1_96 (by decide +kernel)
theorem dX11_wave_82 : decode cX11_wave 82 = .ok (.iaload, 1) := dc1_46 (by decide +kernel)
theorem dX11_wave_83 : decode cX11_wave 83 = .ok (.ireturn, 1) := dc1_172 (by decide +kernel)
theorem dX11_wave_84 : decode cX11_wave 84 = .ok (.aload_n 0, 1) := dc1_42 (by decide +kernel)
theorem dX11_wave_85 : decode cX11_wave 85 = .ok (.iload_n 1, 1) := dc1_27 (by decide +kernel)
theorem dX11_wave_86 : decode cX11_wave 86 = .ok (.invokevirtual 303, 3) := dcw_182 (by decide +kernel)
theorem dX11_wave_89 : decode cX11_wave 89 = .ok (.ireturn, 1) := dc1_172 (by decide +kernel)
theorem dX11_wave_90 : decode cX11_wave 90 = .ok (.aload_n 0, 1) := dc1_42 (by decide +kernel)
theorem dX11_wave_91 : decode cX11_wave 91 = .ok (.iload_n 1, 1) := dc1_27 (by decide +kernel)
theorem dX11_wave_92 : decode cX11_wave 92 = .ok (.invokevirtual 343, 3) := dcw_182 (by decide +kernel)
theorem dX11_wave_95 : decode cX11_wave 95 = .ok (.ireturn, 1) := dc1_172 (by decide +kernel)
theorem dX11_wave_96 : decode cX11_wave 96 = .ok (.iconst (-1), 1) := dc1_2 (by decide +kernel)
theorem dX11_wave_97 : decode cX11_wave 97 = .ok (.ireturn, 1) := dc1_172 (by decide +kernel)
theorem ggX11_odds_X11_isWave : GoodIn wsX11_odds wsX11_isWave := gi_sub (fun w h => List.mem_cons_of_mem _ (List.mem_append_left _ (List.mem_append_right _ (List.mem_append_left _ h)))) gd_wsX11_isWave
set_option maxRecDepth 20000 in
theorem gX11_odds_X11_isWave : GoodIn wsX11_odds (wsV RX11 349 RX11 yX11_isWave wsX11_isWave) := goodIn_app (goodIn_r _ [1, 2, 3, 4] (by decide +kernel) (by decide +kernel)) ggX11_odds_X11_isWave
theorem ggX11_odds_X11_isThing : GoodIn wsX11_odds wsX11_isThing := gi_sub (fun w h => List.mem_cons_of_mem _ (List.mem_append_left _ (List.mem_append_right _ (List.mem_append_right _ (List.mem_append_left _ h))))) gd_wsX11_isThing
set_option maxRecDepth 20000 in
theorem gX11_odds_X11_isThing : GoodIn wsX11_odds (va_wsS RX11 355 yX11_isThing wsX11_isThing) := goodIn_app (goodIn_of _ (by decide +kernel)) ggX11_odds_X11_isThing
theorem ggX11_odds_X11_oddsAt : GoodIn wsX11_odds wsX11_oddsAt := gi_sub (fun w h => List.mem_cons_of_mem _ (List.mem_append_left _ (List.mem_append_right _ (List.mem_append_right _ (List.mem_append_right _ h))))) gd_wsX11_oddsAt
set_option maxRecDepth 20000 in
theorem gX11_odds_X11_oddsAt : GoodIn wsX11_odds (wsV RX11 297 RX11 yX11_oddsAt wsX11_oddsAt) := goodIn_app (goodIn_r _ [7, 8, 9, 4] (by decide +kernel) (by decide +kernel)) ggX11_odds_X11_oddsAt
theorem dX11_odds_0 : decode cX11_odds 0 = .ok (.aload_n 0, 1) := dc1_42 (by decide +kernel)
theorem dX11_odds_1 : decode cX11_odds 1 = .ok (.iload_n 1, 1) := dc1_27 (by decide +kernel)
theorem dX11_odds_2 : decode cX11_odds 2 = .ok (.invokevirtual 349, 3) := dcw_182 (by decide +kernel)
theorem dX11_odds_5 : decode cX11_odds 5 = .ok (.ifCond .eq 19, 3) := dcs_153 (n := 19) (by decide +kernel)
theorem dX11_odds_8 : decode cX11_odds 8 = .ok (.iload_n 2, 1) := dc1_28 (by decide +kernel)
theorem dX11_odds_9 : decode cX11_odds 9 = .ok (.invokestatic 355, 3) := dcw_184 (by decide +kernel)
theorem dX11_odds_12 : decode cX11_odds 12 = .ok (.ifCond .eq 12, 3) := dcs_153 (n := 12) (by decide +kernel)
theorem dX11_odds_15 : decode cX11_odds 15 = .ok (.aload_n 0, 1) := dc1_42 (by decide +kernel)
theorem dX11_odds_16 : decode cX11_odds 16 = .ok (.iload_n 1, 1) := dc1_27 (by decide +kernel)
theorem dX11_odds_17 : decode cX11_odds 17 = .ok (.iload_n 2, 1) := dc1_28 (by decide +kernel)
theorem dX11_odds_18 : decode cX11_odds 18 = .ok (.invokevirtual 297, 3) := dcw_182 (by decide +kernel)
theorem dX11_odds_21 : decode cX11_odds 21 = .ok (.goto 4, 3) := dcs_167 (n := 4) (by decide +kernel)
theorem dX11_odds_24 : decode cX11_odds 24 = .ok (.iconst (-1), 1) := dc1_2 (by decide +kernel)
theorem dX11_odds_25 : decode cX11_odds 25 = .ok (.ireturn, 1) := dc1_172 (by decide +kernel)
theorem ggX11_party_X11_isParty : GoodIn wsX11_party wsX11_isParty := gi_sub (fun w h => List.mem_cons_of_mem _ (List.mem_append_left _ (List.mem_append_right _ (List.mem_append_left _ h)))) gd_wsX11_isParty
set_option maxRecDepth 20000 in
theorem gX11_party_X11_isParty : GoodIn wsX11_party (wsV RX11 358 RX11 yX11_isParty wsX11_isParty) := goodIn_app (goodIn_r _ [5, 6, 7, 8] (by decide +kernel) (by decide +kernel)) ggX11_party_X11_isParty
theorem ggX11_party_X11_copies : GoodIn wsX11_party wsX11_copies := gi_sub (fun w h => List.mem_cons_of_mem _ (List.mem_append_left _ (List.mem_append_right _ (List.mem_append_right _ (List.mem_append_left _ h))))) gd_wsX11_copies
set_option maxRecDepth 20000 in
theorem gX11_party_X11_copies : GoodIn wsX11_party (wsV RX11 352 RX11 yX11_copies wsX11_copies) := goodIn_app (goodIn_r _ [9, 10, 11, 8] (by decide +kernel) (by decide +kernel)) ggX11_party_X11_copies
theorem ggX11_party_X11_faresOf : GoodIn wsX11_party wsX11_faresOf := gi_sub (fun w h => List.mem_cons_of_mem _ (List.mem_append_left _ (List.mem_append_right _ (List.mem_append_right _ (List.mem_append_right _ (List.mem_append_left _ h)))))) gd_wsX11_faresOf
set_option maxRecDepth 20000 in
theorem gX11_party_X11_faresOf : GoodIn wsX11_party (wsV RX11 339 RX11 yX11_faresOf wsX11_faresOf) := goodIn_app (goodIn_r _ [12, 13, 14, 8] (by decide +kernel) (by decide +kernel)) ggX11_party_X11_faresOf
theorem ggX11_party_X11_doesDare : GoodIn wsX11_party wsX11_doesDare := gi_sub (fun w h => List.mem_cons_of_mem _ (List.mem_append_left _ (List.mem_append_right _ (List.mem_append_right _ (List.mem_append_right _ (List.mem_append_right _ h)))))) gd_wsX11_doesDare
set_option maxRecDepth 20000 in
theorem gX11_party_X11_doesDare : GoodIn wsX11_party (wsV RX11 361 RX11 yX11_doesDare wsX11_doesDare) := goodIn_app (goodIn_r _ [15, 16, 17, 8] (by decide +kernel) (by decide +kernel)) ggX11_party_X11_doesDare
theorem dX11_party_0 : decode cX11_party 0 = .ok (.aload_n 0, 1) := dc1_42 (by decide +kernel)
theorem dX11_party_1 : decode cX11_party 1 = .ok (.iload_n 1, 1) := dc1_27 (by decide +kernel)
theorem dX11_party_2 : decode cX11_party 2 = .ok (.invokevirtual 358, 3) := dcw_182 (by decide +kernel)
theorem dX11_party_5 : decode cX11_party 5 = .ok (.ifCond .ne 5, 3) := dcs_154 (n := 5) (by decide +kernel)
theorem dX11_party_8 : decode cX11_party 8 = .ok (.iconst (-1), 1) := dc1_2 (by decide +kernel)
theorem dX11_party_9 : decode cX11_party 9 = .ok (.ireturn, 1) := dc1_172 (by decide +kernel)
theorem dX11_party_10 : decode cX11_party 10 = .ok (.aload_n 0, 1) := dc1_42 (by decide +kernel)
theorem dX11_party_11 : decode cX11_party 11 = .ok (.invokevirtual 352, 3) := dcw_182 (by decide +kernel)
theorem dX11_party_14 : decode cX11_party 14 = .ok (.iload_n 2, 1) := dc1_28 (by decide +kernel)
theorem dX11_party_15 : decode cX11_party 15 = .ok (.tableswitch 107 0 5 #[37, 52, 67, 77, 87, 93], 37) := by decide +kernel
theorem dX11_party_52 : decode cX11_party 52 = .ok (.aload_n 0, 1) := dc1_42 (by decide +kernel)
theorem dX11_party_53 : decode cX11_party 53 = .ok (.getfield 52, 3) := dcw_180 (by decide +kernel)
theorem dX11_party_56 : decode cX11_party 56 = .ok (.bipush 6, 2) := dcb_16 (n := 6) (by decide +kernel)
theorem dX11_party_58 : decode cX11_party 58 = .ok (.aload_n 0, 1) := dc1_42 (by decide +kernel)
theorem dX11_party_59 : decode cX11_party 59 = .ok (.getfield 215, 3) := dcw_180 (by decide +kernel)
theorem dX11_party_62 : decode cX11_party 62 = .ok (.imul, 1) := dc1_104 (by decide +kernel)
theorem dX11_party_63 : decode cX11_party 63 = .ok (.iload_n 1, 1) := dc1_27 (by decide +kernel)
theorem dX11_party_64 : decode cX11_party 64 = .ok (.iadd, 1) := dc1_96 (by decide +kernel)
theorem dX11_party_65 : decode cX11_party 65 = .ok (.iaload, 1) := dc1_46 (by decide +kernel)
theorem dX11_party_66 : decode cX11_party 66 = .ok (.ireturn, 1) := dc1_172 (by decide +kernel)
theorem dX11_party_67 : decode cX11_party 67 = .ok (.aload_n 0, 1) := dc1_42 (by decide +kernel)
theorem dX11_party_68 : decode cX11_party 68 = .ok (.getfield 55, 3) := dcw_180 (by decide +kernel)
theorem dX11_party_71 : decode cX11_party 71 = .ok (.bipush 6, 2) := dcb_16 (n := 6) (by decide +kernel)
theorem dX11_party_73 : decode cX11_party 73 = .ok (.aload_n 0, 1) := dc1_42 (by decide +kernel)
theorem dX11_party_74 : decode cX11_party 74 = .ok (.getfield 215, 3) := dcw_180 (by decide +kernel)
theorem dX11_party_77 : decode cX11_party 77 = .ok (.imul, 1) := dc1_104 (by decide +kernel)
theorem dX11_party_78 : decode cX11_party 78 = .ok (.iload_n 1, 1) := dc1_27 (by decide +kernel)
theorem dX11_party_79 : decode cX11_party 79 = .ok (.iadd, 1) := dc1_96 (by decide +kernel)
theorem dX11_party_80 : decode cX11_party 80 = .ok (.iaload, 1) := dc1_46 (by decide +kernel)
theorem dX11_party_81 : decode cX11_party 81 = .ok (.ireturn, 1) := dc1_172 (by decide +kernel)
theorem dX11_party_82 : decode cX11_party 82 = .ok (.aload_n 0, 1) := dc1_42 (by decide +kernel)
theorem dX11_party_83 : decode cX11_party 83 = .ok (.getfield 101, 3) := dcw_180 (by decide +kernel)
theorem dX11_party_86 : decode cX11_party 86 = .ok (.bipush 15, 2) := dcb_16 (n := 15) (by decide +kernel)
theorem dX11_party_88 : decode cX11_party 88 = .ok (.iload_n 1, 1) := dc1_27 (by decide +kernel)
theorem dX11_party_89 : decode cX11_party 89 = .ok (.iadd, 1) := dc1_96 (by decide +kernel)
theorem dX11_party_90 : decode cX11_party 90 = .ok (.iaload, 1) := dc1_46 (by decide +kernel)
theorem dX11_party_91 : decode cX11_party 91 = .ok (.ireturn, 1) := dc1_172 (by decide +kernel)
theorem dX11_party_92 : decode cX11_party 92 = .ok (.aload_n 0, 1) := dc1_42 (by decide +kernel)
theorem dX11_party_93 : decode cX11_party 93 = .ok (.getfield 101, 3) := dcw_180 (by decide +kernel)
theorem dX11_party_96 : decode cX11_party 96 = .ok (.bipush 21, 2) := dcb_16 (n := 21) (by decide +kernel)
theorem dX11_party_98 : decode cX11_party 98 = .ok (.iload_n 1, 1) := dc1_27 (by decide +kernel)
theorem dX11_party_99 : decode cX11_party 99 = .ok (.iadd, 1) := dc1_96 (by decide +kernel)
theorem dX11_party_100 : decode cX11_party 100 = .ok (.iaload, 1) := dc1_46 (by decide +kernel)
theorem dX11_party_101 : decode cX11_party 101 = .ok (.ireturn, 1) := dc1_172 (by decide +kernel)
theorem dX11_party_102 : decode cX11_party 102 = .ok (.aload_n 0, 1) := dc1_42 (by decide +kernel)
theorem dX11_party_103 : decode cX11_party 103 = .ok (.iload_n 1, 1) := dc1_27 (by decide +kernel)
theorem dX11_party_104 : decode cX11_party 104 = .ok (.invokevirtual 339, 3) := dcw_182 (by decide +kernel)
theorem dX11_party_107 : decode cX11_party 107 = .ok (.ireturn, 1) := dc1_172 (by decide +kernel)
theorem dX11_party_108 : decode cX11_party 108 = .ok (.aload_n 0, 1) := dc1_42 (by decide +kernel)
theorem dX11_party_109 : decode cX11_party 109 = .ok (.iload_n 1, 1) := dc1_27 (by decide +kernel)
theorem dX11_party_110 : decode cX11_party 110 = .ok (.invokevirtual 361, 3) := dcw_182 (by decide +kernel)
theorem dX11_party_113 : decode cX11_party 113 = .ok (.ifCond .eq 7, 3) := dcs_153 (n := 7) (by decide +kernel)
theorem dX11_party_116 : decode cX11_party 116 = .ok (.iconst 1, 1) := dc1_4 (by decide +kernel)
theorem dX11_party_117 : decode cX11_party 117 = .ok (.goto 4, 3) := dcs_167 (n := 4) (by decide +kernel)
theorem dX11_party_120 : decode cX11_party 120 = .ok (.iconst 0, 1) := dc1_3 (by decide +kernel)
theorem dX11_party_121 : decode cX11_party 121 = .ok (.ireturn, 1) := dc1_172 (by decide +kernel)
theorem dX11_party_122 : decode cX11_party 122 = .ok (.iconst (-1), 1) := dc1_2 (by decide +kernel)
theorem dX11_party_123 : decode cX11_party 123 = .ok (.ireturn, 1) := dc1_172 (by decide +kernel)
theorem ggX11_needs_X11_isParty : GoodIn wsX11_needs wsX11_isParty := gi_sub (fun w h => List.mem_cons_of_mem _ (List.mem_append_left _ (List.mem_append_right _ (List.mem_append_left _ h)))) gd_wsX11_isParty
set_option maxRecDepth 20000 in
theorem gX11_needs_X11_isParty : GoodIn wsX11_needs (wsV RX11 358 RX11 yX11_isParty wsX11_isParty) := goodIn_app (goodIn_r _ [1, 2, 3, 4] (by decide +kernel) (by decide +kernel)) ggX11_needs_X11_isParty
theorem ggX11_needs_X11_isWave : GoodIn wsX11_needs wsX11_isWave := gi_sub (fun w h => List.mem_cons_of_mem _ (List.mem_append_left _ (List.mem_append_right _ (List.mem_append_right _ (List.mem_append_left _ h))))) gd_wsX11_isWave
set_option maxRecDepth 20000 in
theorem gX11_needs_X11_isWave : GoodIn wsX11_needs (wsV RX11 349 RX11 yX11_isWave wsX11_isWave) := goodIn_app (goodIn_r _ [5, 6, 7, 4] (by decide +kernel) (by decide +kernel)) ggX11_needs_X11_isWave
theorem ggX11_needs_X11_isThing : GoodIn wsX11_needs wsX11_isThing := gi_sub (fun w h => List.mem_cons_of_mem _ (List.mem_append_left _ (List.mem_append_right _ (List.mem_append_right _ (List.mem_append_right _ (List.mem_append_left _ h)))))) gd_wsX11_isThing
set_option maxRecDepth 20000 in
theorem gX11_needs_X11_isThing : GoodIn wsX11_needs (va_wsS RX11 355 yX11_isThing wsX11_isThing) := goodIn_app (goodIn_of _ (by decide +kernel)) ggX11_needs_X11_isThing
theorem ggX11_needs_X11_copies : GoodIn wsX11_needs wsX11_copies := gi_sub (fun w h => List.mem_cons_of_mem _ (List.mem_append_left _ (List.mem_append_right _ (List.mem_append_right _ (List.mem_append_right _ (List.mem_append_right _ (List.mem_append_left _ h))))))) gd_wsX11_copies
set_option maxRecDepth 20000 in
theorem gX11_needs_X11_copies : GoodIn wsX11_needs (wsV RX11 352 RX11 yX11_copies wsX11_copies) := goodIn_app (goodIn_r _ [10, 11, 12, 4] (by decide +kernel) (by decide +kernel)) ggX11_needs_X11_copies
theorem ggX11_needs_X11_needsOf : GoodIn wsX11_needs wsX11_needsOf := gi_sub (fun w h => List.mem_cons_of_mem _ (List.mem_append_left _ (List.mem_append_right _ (List.mem_append_right _ (List.mem_append_right _ (List.mem_append_right _ (List.mem_append_right _ h))))))) gd_wsX11_needsOf
set_option maxRecDepth 20000 in
theorem gX11_needs_X11_needsOf : GoodIn wsX11_needs (wsV RX11 327 RX11 yX11_needsOf wsX11_needsOf) := goodIn_app (goodIn_r _ [13, 14, 15, 4] (by decide +kernel) (by decide +kernel)) ggX11_needs_X11_needsOf
theorem dX11_needs_0 : decode cX11_needs 0 = .ok (.aload_n 0, 1) := dc1_42 (by decide +kernel)
theorem dX11_needs_1 : decode cX11_needs 1 = .ok (.iload_n 1, 1) := dc1_27 (by decide +kernel)
theorem dX11_needs_2 : decode cX11_needs 2 = .ok (.invokevirtual 358, 3) := dcw_182 (by decide +kernel)
theorem dX11_needs_5 : decode cX11_needs 5 = .ok (.ifCond .eq 18, 3) := dcs_153 (n := 18) (by decide +kernel)
theorem dX11_needs_8 : decode cX11_needs 8 = .ok (.aload_n 0, 1) := dc1_42 (by decide +kernel)
theorem dX11_needs_9 : decode cX11_needs 9 = .ok (.iload_n 2, 1) := dc1_28 (by decide +kernel)
theorem dX11_needs_10 : decode cX11_needs 10 = .ok (.invokevirtual 349, 3) := dcw_182 (by decide +kernel)
theorem dX11_needs_13 : decode cX11_needs 13 = .ok (.ifCond .eq 10, 3) := dcs_153 (n := 10) (by decide +kernel)
theorem dX11_needs_16 : decode cX11_needs 16 = .ok (.iload_n 3, 1) := dc1_29 (by decide +kernel)
theorem dX11_needs_17 : decode cX11_needs 17 = .ok (.invokestatic 355, 3) := dcw_184 (by decide +kernel)
theorem dX11_needs_20 : decode cX11_needs 20 = .ok (.ifCond .ne 5, 3) := dcs_154 (n := 5) (by decide +kernel)
theorem dX11_needs_23 : decode cX11_needs 23 = .ok (.iconst (-1), 1) := dc1_2 (by decide +kernel)
theorem dX11_needs_24 : decode cX11_needs 24 = .ok (.ireturn, 1) := dc1_172 (by decide +kernel)
theorem dX11_needs_25 : decode cX11_needs 25 = .ok (.aload_n 0, 1) := dc1_42 (by decide +kernel)
theorem dX11_needs_26 : decode cX11_needs 26 = .ok (.invokevirtual 352, 3) := dcw_182 (by decide +kernel)
theorem dX11_needs_29 : decode cX11_needs 29 = .ok (.aload_n 0, 1) := dc1_42 (by decide +kernel)
theorem dX11_needs_30 : decode cX11_needs 30 = .ok (.iload_n 1, 1) := dc1_27 (by decide +kernel)
theorem dX11_needs_31 : decode cX11_needs 31 = .ok (.iload_n 2, 1) := dc1_28 (by decide +kernel)
theorem dX11_needs_32 : decode cX11_needs 32 = .ok (.iload_n 3, 1) := dc1_29 (by decide +kernel)
theorem dX11_needs_33 : decode cX11_needs 33 = .ok (.invokevirtual 327, 3) := dcw_182 (by decide +kernel)
theorem dX11_needs_36 : decode cX11_needs 36 = .ok (.ireturn, 1) := dc1_172 (by decide +kernel)
theorem ggX11_records_X11_keepsRow : GoodIn wsX11_records wsX11_keepsRow := gi_sub (fun w h => List.mem_cons_of_mem _ (List.mem_append_left _ (List.mem_append_right _ h))) gd_wsX11_keepsRow
set_option maxRecDepth 20000 in
theorem gX11_records_X11_keepsRow : GoodIn wsX11_records (wsV RX11 145 RX11 yX11_keepsRow wsX11_keepsRow) := goodIn_app (goodIn_r _ [4, 5, 6, 7] (by decide +kernel) (by decide +kernel)) ggX11_records_X11_keepsRow
theorem dX11_records_0 : decode cX11_records 0 = .ok (.aload_n 0, 1) := dc1_42 (by decide +kernel)
theorem dX11_records_1 : decode cX11_records 1 = .ok (.getfield 230, 3) := dcw_180 (by decide +kernel)
theorem dX11_records_4 : decode cX11_records 4 = .ok (.bipush 40, 2) := dcb_16 (n := 40) (by decide +kernel)
theorem dX11_records_6 : decode cX11_records 6 = .ok (.if_icmp .ne 43, 3) := dcs_160 (n := 43) (by decide +kernel)
theorem dX11_records_9 : decode cX11_records 9 = .ok (.iconst 0, 1) := dc1_3 (by decide +kernel)
theorem dX11_records_10 : decode cX11_records 10 = .ok (.istore_n 1, 1) := dc1_60 (by decide +kernel)
theorem dX11_records_11 : decode cX11_records 11 = .ok (.iload_n 1, 1) := dc1_27 (by decide +kernel)
theorem dX11_records_12 : decode cX11_records 12 = .ok (.sipush 1131, 3) := dcs_17 (n := 1131) (by decide +kernel)
theorem dX11_records_15 : decode cX11_records 15 = .ok (.if_icmp .ge 24, 3) := dcs_162 (n := 24) (by decide +kernel)
theorem dX11_records_18 : decode cX11_records 18 = .ok (.aload_n 0, 1) := dc1_42 (by decide +kernel)
theorem dX11_records_19 : decode cX11_records 19 = .ok (.getfield 110, 3) := dcw_180 (by decide +kernel)
theorem dX11_records_22 : decode cX11_records 22 = .ok (.iload_n 1, 1) := dc1_27 (by decide +kernel)
theorem dX11_records_23 : decode cX11_records 23 = .ok (.aload_n 0, 1) := dc1_42 (by decide +kernel)
theorem dX11_records_24 : decode cX11_records 24 = .ok (.getfield 110, 3) := dcw_180 (by decide +kernel)
theorem dX11_records_27 : decode cX11_records 27 = .ok (.iload_n 1, 1) := dc1_27 (by decide +kernel)
theorem dX11_records_28 : decode cX11_records 28 = .ok (.bipush 29, 2) := dcb_16 (n := 29) (by decide +kernel)
theorem dX11_records_30 : decode cX11_records 30 = .ok (.iadd, 1) := dc1_96 (by decide +kernel)
theorem dX11_records_31 : decode cX11_records 31 = .ok (.iaload, 1) := dc1_46 (by decide +kernel)
theorem dX11_records_32 : decode cX11_records 32 = .ok (.iastore, 1) := dc1_79 (by decide +kernel)
theorem dX11_records_33 : decode cX11_records 33 = .ok (.iinc 1 1, 3) := dc_iinc (m := 1) (by decide +kernel)
theorem dX11_records_36 : decode cX11_records 36 = .ok (.goto (-25), 3) := dcs_167 (n := 65511) (by decide +kernel)
theorem dX11_records_39 : decode cX11_records 39 = .ok (.aload_n 0, 1) := dc1_42 (by decide +kernel)
theorem dX11_records_40 : decode cX11_records 40 = .ok (.dup, 1) := dc1_89 (by decide +kernel)
theorem dX11_records_41 : decode cX11_records 41 = .ok (.getfield 230, 3) := dcw_180 (by decide +kernel)
theorem dX11_records_44 : decode cX11_records 44 = .ok (.iconst 1, 1) := dc1_4 (by decide +kernel)
theorem dX11_records_45 : decode cX11_records 45 = .ok (.isub, 1) := dc1_100 (by decide +kernel)
theorem dX11_records_46 : decode cX11_records 46 = .ok (.putfield 230, 3) := dcw_181 (by decide +kernel)
theorem dX11_records_49 : decode cX11_records 49 = .ok (.iconst 0, 1) := dc1_3 (by decide +kernel)
theorem dX11_records_50 : decode cX11_records 50 = .ok (.istore_n 1, 1) := dc1_60 (by decide +kernel)
theorem dX11_records_51 : decode cX11_records 51 = .ok (.iload_n 1, 1) := dc1_27 (by decide +kernel)
theorem dX11_records_52 : decode cX11_records 52 = .ok (.bipush 29, 2) := dcb_16 (n := 29) (by decide +kernel)
theorem dX11_records_54 : decode cX11_records 54 = .ok (.if_icmp .ge 29, 3) := dcs_162 (n := 29) (by decide +kernel)
theorem dX11_records_57 : decode cX11_records 57 = .ok (.aload_n 0, 1) := dc1_42 (by decide +kernel)
theorem dX11_records_58 : decode cX11_records 58 = .ok (.getfield 110, 3) := dcw_180 (by decide +kernel)
theorem dX11_records_61 : decode cX11_records 61 = .ok (.bipush 29, 2) := dcb_16 (n := 29) (by decide +kernel)
theorem dX11_records_63 : decode cX11_records 63 = .ok (.aload_n 0, 1) := dc1_42 (by decide +kernel)
theorem dX11_records_64 : decode cX11_records 64 = .ok (.getfield 230, 3) := dcw_180 (by decide +kernel)
theorem dX11_records_67 : decode cX11_records 67 = .ok (.imul, 1) := dc1_104 (by decide +kernel)
theorem dX11_records_68 : decode cX11_records 68 = .ok (.iload_n 1, 1) := dc1_27 (by decide +kernel)
theorem dX11_records_69 : decode cX11_records 69 = .ok (.iadd, 1) := dc1_96 (by decide +kernel)
theorem dX11_records_70 : decode cX11_records 70 = .ok (.aload_n 0, 1) := dc1_42 (by decide +kernel)
theorem dX11_records_71 : decode cX11_records 71 = .ok (.getfield 98, 3) := dcw_180 (by decide +kernel)
theorem dX11_records_74 : decode cX11_records 74 = .ok (.iload_n 1, 1) := dc1_27 (by decide +kernel)
theorem dX11_records_75 : decode cX11_records 75 = .ok (.iaload, 1) := dc1_46 (by decide +kernel)
theorem dX11_records_76 : decode cX11_records 76 = .ok (.iastore, 1) := dc1_79 (by decide +kernel)
theorem dX11_records_77 : decode cX11_records 77 = .ok (.iinc 1 1, 3) := dc_iinc (m := 1) (by decide +kernel)
theorem dX11_records_80 : decode cX11_records 80 = .ok (.goto (-29), 3) := dcs_167 (n := 65507) (by decide +kernel)
theorem dX11_records_83 : decode cX11_records 83 = .ok (.aload_n 0, 1) := dc1_42 (by decide +kernel)
theorem dX11_records_84 : decode cX11_records 84 = .ok (.dup, 1) := dc1_89 (by decide +kernel)
theorem dX11_records_85 : decode cX11_records 85 = .ok (.getfield 230, 3) := dcw_180 (by decide +kernel)
theorem dX11_records_88 : decode cX11_records 88 = .ok (.iconst 1, 1) := dc1_4 (by decide +kernel)
theorem dX11_records_89 : decode cX11_records 89 = .ok (.iadd, 1) := dc1_96 (by decide +kernel)
theorem dX11_records_90 : decode cX11_records 90 = .ok (.putfield 230, 3) := dcw_181 (by decide +kernel)
theorem dX11_records_93 : decode cX11_records 93 = .ok (.aload_n 0, 1) := dc1_42 (by decide +kernel)
theorem dX11_records_94 : decode cX11_records 94 = .ok (.invokevirtual 145, 3) := dcw_182 (by decide +kernel)
theorem dX11_records_97 : decode cX11_records 97 = .ok (.return_, 1) := dc1_177 (by decide +kernel)
theorem ggX11_isHere_X11_isParty : GoodIn wsX11_isHere wsX11_isParty := gi_sub (fun w h => List.mem_cons_of_mem _ (List.mem_append_left _ (List.mem_append_right _ h))) gd_wsX11_isParty
set_option maxRecDepth 20000 in
theorem gX11_isHere_X11_isParty : GoodIn wsX11_isHere (wsV RX11 358 RX11 yX11_isParty wsX11_isParty) := goodIn_app (goodIn_r _ [2, 3, 4, 5] (by decide +kernel) (by decide +kernel)) ggX11_isHere_X11_isParty
theorem dX11_isHere_0 : decode cX11_isHere 0 = .ok (.aload_n 0, 1) := dc1_42 (by decide +kernel)
theorem dX11_isHere_1 : decode cX11_isHere 1 = .ok (.iload_n 1, 1) := dc1_27 (by decide +kernel)
theorem dX11_isHere_2 : decode cX11_isHere 2 = .ok (.invokevirtual 358, 3) := dcw_182 (by decide +kernel)
theorem dX11_isHere_5 : decode cX11_isHere 5 = .ok (.ifCond .eq 19, 3) := dcs_153 (n := 19) (by decide +kernel)
theorem dX11_isHere_8 : decode cX11_isHere 8 = .ok (.aload_n 0, 1) := dc1_42 (by decide +kernel)
theorem dX11_isHere_9 : decode cX11_isHere 9 = .ok (.getfield 98, 3) := dcw_180 (by decide +kernel)
theorem dX11_isHere_12 : decode cX11_isHere 12 = .ok (.bipush 15, 2) := dcb_16 (n := 15) (by decide +kernel)
theorem dX11_isHere_14 : decode cX11_isHere 14 = .ok (.iload_n 1, 1) := dc1_27 (by decide +kernel)
theorem dX11_isHere_15 : decode cX11_isHere 15 = .ok (.iadd, 1) := dc1_96 (by decide +kernel)
theorem dX11_isHere_16 : decode cX11_isHere 16 = .ok (.iaload, 1) := dc1_46 (by decide +kernel)
theorem dX11_isHere_17 : decode cX11_isHere 17 = .ok (.ifCond .ne 7, 3) := dcs_154 (n := 7) (by decide +kernel)
theorem dX11_isHere_20 : decode cX11_isHere 20 = .ok (.iconst 1, 1) := dc1_4 (by decide +kernel)
theorem dX11_isHere_21 : decode cX11_isHere 21 = .ok (.goto 4, 3) := dcs_167 (n := 4) (by decide +kernel)
theorem dX11_isHere_24 : decode cX11_isHere 24 = .ok (.iconst 0, 1) := dc1_3 (by decide +kernel)
theorem dX11_isHere_25 : decode cX11_isHere 25 = .ok (.ireturn, 1) := dc1_172 (by decide +kernel)
theorem ggX11_go_X11_isHere : GoodIn wsX11_go wsX11_isHere := gi_sub (fun w h => List.mem_cons_of_mem _ (List.mem_append_left _ (List.mem_append_right _ (List.mem_append_left _ h)))) gd_wsX11_isHere
set_option maxRecDepth 20000 in
theorem gX11_go_X11_isHere : GoodIn wsX11_go (wsV RX11 364 RX11 yX11_isHere wsX11_isHere) := goodIn_app (goodIn_r _ [3, 4, 5, 6] (by decide +kernel) (by decide +kernel)) ggX11_go_X11_isHere
theorem ggX11_go_X11_isGuess : GoodIn wsX11_go wsX11_isGuess := gi_sub (fun w h => List.mem_cons_of_mem _ (List.mem_append_left _ (List.mem_append_right _ (List.mem_append_right _ (List.mem_append_left _ h))))) gd_wsX11_isGuess
set_option maxRecDepth 20000 in
theorem gX11_go_X11_isGuess : GoodIn wsX11_go (wsV RX11 367 RX11 yX11_isGuess wsX11_isGuess) := goodIn_app (goodIn_r _ [7, 8, 9, 6] (by decide +kernel) (by decide +kernel)) ggX11_go_X11_isGuess
theorem ggX11_go_X11_copies : GoodIn wsX11_go wsX11_copies := gi_sub (fun w h => List.mem_cons_of_mem _ (List.mem_append_left _ (List.mem_append_right _ (List.mem_append_right _ (List.mem_append_right _ (List.mem_append_left _ h)))))) gd_wsX11_copies
set_option maxRecDepth 20000 in
theorem gX11_go_X11_copies : GoodIn wsX11_go (wsV RX11 352 RX11 yX11_copies wsX11_copies) := goodIn_app (goodIn_r _ [10, 11, 12, 6] (by decide +kernel) (by decide +kernel)) ggX11_go_X11_copies
theorem ggX11_go_X11_thereNumber : GoodIn wsX11_go wsX11_thereNumber := gi_sub (fun w h => List.mem_cons_of_mem _ (List.mem_append_left _ (List.mem_append_right _ (List.mem_append_right _ (List.mem_append_right _ (List.mem_append_right _ (List.mem_append_left _ h))))))) gd_wsX11_thereNumber
set_option maxRecDepth 20000 in
theorem gX11_go_X11_thereNumber : GoodIn wsX11_go (wsV RX11 370 RX11 yX11_thereNumber wsX11_thereNumber) := goodIn_app (goodIn_r _ [13, 14, 15, 6] (by decide +kernel) (by decide +kernel)) ggX11_go_X11_thereNumber
theorem ggX11_go_X11_goesBy : GoodIn wsX11_go wsX11_goesBy := gi_sub (fun w h => List.mem_cons_of_mem _ (List.mem_append_left _ (List.mem_append_right _ (List.mem_append_right _ (List.mem_append_right _ (List.mem_append_right _ (List.mem_append_right _ (List.mem_append_left _ h)))))))) gd_wsX11_goesBy
set_option maxRecDepth 20000 in
theorem gX11_go_X11_goesBy : GoodIn wsX11_go (wsV RX11 373 RX11 yX11_goesBy wsX11_goesBy) := goodIn_app (goodIn_r _ [16, 17, 18, 6] (by decide +kernel) (by decide +kernel)) ggX11_go_X11_goesBy
theorem ggX11_go_X11_records : GoodIn wsX11_go wsX11_records := gi_sub (fun w h => List.mem_cons_of_mem _ (List.mem_append_left _ (List.mem_append_right _ (List.mem_append_right _ (List.mem_append_right _ (List.mem_append_right _ (List.mem_append_right _ (List.mem_append_right _ h)))))))) gd_wsX11_records
set_option maxRecDepth 20000 in
theorem gX11_go_X11_records : GoodIn wsX11_go (wsV RX11 376 RX11 yX11_records wsX11_records) := goodIn_app (goodIn_r _ [19, 20, 21, 6] (by decide +kernel) (by decide +kernel)) ggX11_go_X11_records
theorem dX11_go_0 : decode cX11_go 0 = .ok (.aload_n 0, 1) := dc1_42 (by decide +kernel)
theorem dX11_go_1 : decode cX11_go 1 = .ok (.iload_n 1, 1) := dc1_27 (by decide +kernel)
theorem dX11_go_2 : decode cX11_go 2 = .ok (.invokevirtual 364, 3) := dcw_182 (by decide +kernel)
theorem dX11_go_5 : decode cX11_go 5 = .ok (.ifCond .eq 23, 3) := dcs_153 (n := 23) (by decide +kernel)
theorem dX11_go_8 : decode cX11_go 8 = .ok (.aload_n 0, 1) := dc1_42 (by decide +kernel)
theorem dX11_go_9 : decode cX11_go 9 = .ok (.getfield 40, 3) := dcw_180 (by decide +kernel)
theorem dX11_go_12 : decode cX11_go 12 = .ok (.aload_n 0, 1) := dc1_42 (by decide +kernel)
theorem dX11_go_13 : decode cX11_go 13 = .ok (.getfield 215, 3) := dcw_180 (by decide +kernel)
theorem dX11_go_16 : decode cX11_go 16 = .ok (.iaload, 1) := dc1_46 (by decide +kernel)
theorem dX11_go_17 : decode cX11_go 17 = .ok (.ifCond .eq 11, 3) := dcs_153 (n := 11) (by decide +kernel)
theorem dX11_go_20 : decode cX11_go 20 = .ok (.aload_n 0, 1) := dc1_42 (by decide +kernel)
theorem dX11_go_21 : decode cX11_go 21 = .ok (.iload_n 2, 1) := dc1_28 (by decide +kernel)
theorem dX11_go_22 : decode cX11_go 22 = .ok (.invokevirtual 367, 3) := dcw_182 (by decide +kernel)
theorem dX11_go_25 : decode cX11_go 25 = .ok (.ifCond .ne 5, 3) := dcs_154 (n := 5) (by decide +kernel)
theorem dX11_go_28 : decode cX11_go 28 = .ok (.iconst (-1), 1) := dc1_2 (by decide +kernel)
theorem dX11_go_29 : decode cX11_go 29 = .ok (.ireturn, 1) := dc1_172 (by decide +kernel)
theorem dX11_go_30 : decode cX11_go 30 = .ok (.aload_n 0, 1) := dc1_42 (by decide +kernel)
theorem dX11_go_31 : decode cX11_go 31 = .ok (.invokevirtual 352, 3) := dcw_182 (by decide +kernel)
theorem dX11_go_34 : decode cX11_go 34 = .ok (.aload_n 0, 1) := dc1_42 (by decide +kernel)
theorem dX11_go_35 : decode cX11_go 35 = .ok (.iload_n 1, 1) := dc1_27 (by decide +kernel)
theorem dX11_go_36 : decode cX11_go 36 = .ok (.iload_n 2, 1) := dc1_28 (by decide +kernel)
theorem dX11_go_37 : decode cX11_go 37 = .ok (.aload_n 0, 1) := dc1_42 (by decide +kernel)
theorem dX11_go_38 : decode cX11_go 38 = .ok (.invokevirtual 370, 3) := dcw_182 (by decide +kernel)
theorem dX11_go_41 : decode cX11_go 41 = .ok (.invokevirtual 373, 3) := dcw_182 (by decide +kernel)
theorem dX11_go_44 : decode cX11_go 44 = .ok (.istore_n 3, 1) := dc1_62 (by decide +kernel)
theorem dX11_go_45 : decode cX11_go 45 = .ok (.aload_n 0, 1) := dc1_42 (by decide +kernel)
theorem dX11_go_46 : decode cX11_go 46 = .ok (.invokevirtual 376, 3) := dcw_182 (by decide +kernel)
theorem dX11_go_49 : decode cX11_go 49 = .ok (.iload_n 3, 1) := dc1_29 (by decide +kernel)
theorem dX11_go_50 : decode cX11_go 50 = .ok (.ireturn, 1) := dc1_172 (by decide +kernel)
theorem ggX11_buoy_X11_isWave : GoodIn wsX11_buoy wsX11_isWave := gi_sub (fun w h => List.mem_cons_of_mem _ (List.mem_append_left _ (List.mem_append_right _ (List.mem_append_left _ h)))) gd_wsX11_isWave
set_option maxRecDepth 20000 in
theorem gX11_buoy_X11_isWave : GoodIn wsX11_buoy (wsV RX11 349 RX11 yX11_isWave wsX11_isWave) := goodIn_app (goodIn_r _ [3, 4, 5, 6] (by decide +kernel) (by decide +kernel)) ggX11_buoy_X11_isWave
theorem ggX11_buoy_X11_isThing : GoodIn wsX11_buoy wsX11_isThing := gi_sub (fun w h => List.mem_cons_of_mem _ (List.mem_append_left _ (List.mem_append_right _ (List.mem_append_right _ (List.mem_append_left _ h))))) gd_wsX11_isThing
set_option maxRecDepth 20000 in
theorem gX11_buoy_X11_isThing : GoodIn wsX11_buoy (va_wsS RX11 355 yX11_isThing wsX11_isThing) := goodIn_app (goodIn_of _ (by decide +kernel)) ggX11_buoy_X11_isThing
theorem ggX11_buoy_X11_copies : GoodIn wsX11_buoy wsX11_copies := gi_sub (fun w h => List.mem_cons_of_mem _ (List.mem_append_left _ (List.mem_append_right _ (List.mem_append_right _ (List.mem_append_right _ (List.mem_append_left _ h)))))) gd_wsX11_copies
set_option maxRecDepth 20000 in
theorem gX11_buoy_X11_copies : GoodIn wsX11_buoy (wsV RX11 352 RX11 yX11_copies wsX11_copies) := goodIn_app (goodIn_r _ [9, 10, 11, 6] (by decide +kernel) (by decide +kernel)) ggX11_buoy_X11_copies
theorem ggX11_buoy_X11_records : GoodIn wsX11_buoy wsX11_records := gi_sub (fun w h => List.mem_cons_of_mem _ (List.mem_append_left _ (List.mem_append_right _ (List.mem_append_right _ (List.mem_append_right _ (List.mem_append_right _ h)))))) gd_wsX11_records
set_option maxRecDepth 20000 in
theorem gX11_buoy_X11_records : GoodIn wsX11_buoy (wsV RX11 376 RX11 yX11_records wsX11_records) := goodIn_app (goodIn_r _ [12, 13, 14, 6] (by decide +kernel) (by decide +kernel)) ggX11_buoy_X11_records
theorem dX11_buoy_0 : decode cX11_buoy 0 = .ok (.aload_n 0, 1) := dc1_42 (by decide +kernel)
theorem dX11_buoy_1 : decode cX11_buoy 1 = .ok (.iload_n 1, 1) := dc1_27 (by decide +kernel)
theorem dX11_buoy_2 : decode cX11_buoy 2 = .ok (.invokevirtual 349, 3) := dcw_182 (by decide +kernel)
theorem dX11_buoy_5 : decode cX11_buoy 5 = .ok (.ifCond .eq 33, 3) := dcs_153 (n := 33) (by decide +kernel)
theorem dX11_buoy_8 : decode cX11_buoy 8 = .ok (.iload_n 2, 1) := dc1_28 (by decide +kernel)
theorem dX11_buoy_9 : decode cX11_buoy 9 = .ok (.invokestatic 355, 3) := dcw_184 (by decide +kernel)
theorem dX11_buoy_12 : decode cX11_buoy 12 = .ok (.ifCond .eq 26, 3) := dcs_153 (n := 26) (by decide +kernel)
theorem dX11_buoy_15 : decode cX11_buoy 15 = .ok (.aload_n 0, 1) := dc1_42 (by decide +kernel)
theorem dX11_buoy_16 : decode cX11_buoy 16 = .ok (.getfield 98, 3) := dcw_180 (by decide +kernel)
theorem dX11_buoy_19 : decode cX11_buoy 19 = .ok (.iload_n 1, 1) := dc1_27 (by decide +kernel)
theorem dX11_buoy_20 : decode cX11_buoy 20 = .ok (.iaload, 1) := dc1_46 (by decide +kernel)
theorem dX11_buoy_21 : decode cX11_buoy 21 = .ok (.iload_n 2, 1) := dc1_28 (by decide +kernel)
theorem dX11_buoy_22 : decode cX11_buoy 22 = .ok (.ishr, 1) := dc1_122 (by decide +kernel)
theorem dX11_buoy_23 : decode cX11_buoy 23 = .ok (.iconst 1, 1) := dc1_4 (by decide +kernel)
theorem dX11_buoy_24 : decode cX11_buoy 24 = .ok (.iand, 1) := dc1_126 (by decide +kernel)
theorem dX11_buoy_25 : decode cX11_buoy 25 = .ok (.iconst 1, 1) := dc1_4 (by decide +kernel)
theorem dX11_buoy_26 : decode cX11_buoy 26 = .ok (.if_icmp .ne 7, 3) := dcs_160 (n := 7) (by decide +kernel)
theorem dX11_buoy_29 : decode cX11_buoy 29 = .ok (.iconst 1, 1) := dc1_4 (by decide +kernel)
theorem dX11_buoy_30 : decode cX11_buoy 30 = .ok (.goto 4, 3) := dcs_167 (n := 4) (by decide +kernel)
theorem dX11_buoy_33 : decode cX11_buoy 33 = .ok (.iconst 0, 1) := dc1_3 (by decide +kernel)
theorem dX11_buoy_34 : decode cX11_buoy 34 = .ok (.iload_n 3, 1) := dc1_29 (by decide +kernel)
theorem dX11_buoy_35 : decode cX11_buoy 35 = .ok (.if_icmp .ne 5, 3) := dcs_160 (n := 5) (by decide +kernel)
theorem dX11_buoy_38 : decode cX11_buoy 38 = .ok (.iconst 0, 1) := dc1_3 (by decide +kernel)
theorem dX11_buoy_39 : decode cX11_buoy 39 = .ok (.ireturn, 1) := dc1_172 (by decide +kernel)
theorem dX11_buoy_40 : decode cX11_buoy 40 = .ok (.aload_n 0, 1) := dc1_42 (by decide +kernel)
theorem dX11_buoy_41 : decode cX11_buoy 41 = .ok (.invokevirtual 352, 3) := dcw_182 (by decide +kernel)
theorem dX11_buoy_44 : decode cX11_buoy 44 = .ok (.aload_n 0, 1) := dc1_42 (by decide +kernel)
theorem dX11_buoy_45 : decode cX11_buoy 45 = .ok (.getfield 101, 3) := dcw_180 (by decide +kernel)
theorem dX11_buoy_48 : decode cX11_buoy 48 = .ok (.iload_n 1, 1) := dc1_27 (by decide +kernel)
theorem dX11_buoy_49 : decode cX11_buoy 49 = .ok (.dup2, 1) := dc1_92 (by decide +kernel)
theorem dX11_buoy_50 : decode cX11_buoy 50 = .ok (.iaload, 1) := dc1_46 (by decide +kernel)
theorem dX11_buoy_51 : decode cX11_buoy 51 = .ok (.iconst 1, 1) := dc1_4 (by decide +kernel)
theorem dX11_buoy_52 : decode cX11_buoy 52 = .ok (.iload_n 2, 1) := dc1_28 (by decide +kernel)
theorem dX11_buoy_53 : decode cX11_buoy 53 = .ok (.ishl, 1) := dc1_120 (by decide +kernel)
theorem dX11_buoy_54 : decode cX11_buoy 54 = .ok (.ixor, 1) := dc1_130 (by decide +kernel)
theorem dX11_buoy_55 : decode cX11_buoy 55 = .ok (.iastore, 1) := dc1_79 (by decide +kernel)
theorem dX11_buoy_56 : decode cX11_buoy 56 = .ok (.aload_n 0, 1) := dc1_42 (by decide +kernel)
theorem dX11_buoy_57 : decode cX11_buoy 57 = .ok (.invokevirtual 376, 3) := dcw_182 (by decide +kernel)
theorem dX11_buoy_60 : decode cX11_buoy 60 = .ok (.iconst 1, 1) := dc1_4 (by decide +kernel)
theorem dX11_buoy_61 : decode cX11_buoy 61 = .ok (.ireturn, 1) := dc1_172 (by decide +kernel)
set_option maxHeartbeats 4000000 in
set_option maxRecDepth 100000 in
theorem br_yearsGo_2 {l : Launch} {dC : Nat → ClassId} {dI : Nat → Nat → Nat} {cB cI cJ cZ cS : ClassId} {h : Nat} {a : Nat → Nat} {as : List Value} {s' : RS} {k2 : RS → Int32 → Int32 → Option RS} (hk2 : ∀ (s : RS) (x1 : Int32) (x2 : Int32), k2 s x1 x2 = some s' → BlkV l yX11_yearsGo wsX11_yearsGo ({ frames := 5, cells := 0, slots := 0, locals := 108 }) cX11_yearsGo 3 none (dC, dI) (tysA cB cI cJ cZ cS) as 2 (mwS cB cI cJ cZ h a s) [(0, .ref h), (1, .int x1), (2, .int x2)] [] (fun u => u = (mwS cB cI cJ cZ h a s'))) (s : RS) (x1 : Int32) (x2 : Int32) (hB : r_yearsGo_2 k2 s x1 x2 = some s') : BlkV l yX11_yearsGo wsX11_yearsGo ({ frames := 5, cells := 0, slots := 0, locals := 108 }) cX11_yearsGo 3 none (dC, dI) (tysA cB cI cJ cZ cS) as 2 (mwS cB cI cJ cZ h a s) [(0, .ref h), (1, .int x1), (2, .int x2)] [] (fun u => u = (mwS cB cI cJ cZ h a s')) := by
  intro p e s0 m below meth c A E H locs ls hP hD hS hl
  obtain ⟨C, hr, hlocks, hA, hK, hN⟩ := id E
  obtain ⟨hx, hb, hml, hown, hts⟩ := id C
  unfold r_yearsGo_2 at hB
  refine lv_iload_n hx hb dX11_yearsGo_2 rfl (lv_at hl 2 rfl) ?_
  refine lv_iload_n hx hb dX11_yearsGo_3 rfl (lv_at hl 1 rfl) ?_
  refine lv_icmp_ge (tgt := 17) hx hb dX11_yearsGo_4 (by decide) (fun c1 => ?_) (fun c1 => ?_)
  · have hB := if_p hB c1
    exact q_vret C hr hlocks hK hP hD hS (Nat.le_of_ble_eq_true rfl) (Nat.le_of_ble_eq_true rfl) dX11_yearsGo_17 (by cases hB; rfl)
  · have hB := if_n hB c1
    refine lv_aload_n hx hb dX11_yearsGo_7 rfl (lv_at hl 0 rfl) ?_
    obtain ⟨s2, hc, hB⟩ := bindP_inv hB
    refine q_govF (va_runV (As := []) (rest := []) C (cr_yearGoes hc _) (cwV 0 hts gX11_yearsGo_X11_yearGoes rfl rfl rfl (by decide +kernel) ⟨Nat.le_of_ble_eq_true rfl, Nat.le_of_ble_eq_true rfl⟩) (q_preV hK hP (ci := 11) (q0 := 0) rfl rfl rfl (q_preF hN hK hP hD)) rfl rfl hl.1 rfl (lv_room (Nat.le_of_ble_eq_true rfl)) dX11_yearsGo_8 ⟨Nat.le_of_ble_eq_true rfl, Nat.le_of_ble_eq_true rfl⟩) hD hS hA (fun w1 H locs hw hP hD hS => ?_)
    subst hw
    refine lv_iinc (v := (x2 + 1)) (lv' := [(2, .int (x2 + 1)), (0, .ref h), (1, .int x1)]) hx hb dX11_yearsGo_11 hl (k := 2) rfl (rfl) (by decide) rfl (fun ls hl => ?_)
    refine lv_goto (tgt := 2) hx hb dX11_yearsGo_14 (by decide) ?_
    exact hk2 _ _ _ hB p e s0 m below meth c A E H locs ls hP hD hS (lv_sub hl [1, 2, 0] rfl)
theorem br_yearsGo_2L {l : Launch} {dC : Nat → ClassId} {dI : Nat → Nat → Nat} {cB cI cJ cZ cS : ClassId} {h : Nat} {a : Nat → Nat} {as : List Value} {s' : RS} : ∀ (n : Nat) (s : RS) (x1 : Int32) (x2 : Int32), r_yearsGo_2L n s x1 x2 = some s' → BlkV l yX11_yearsGo wsX11_yearsGo ({ frames := 5, cells := 0, slots := 0, locals := 108 }) cX11_yearsGo 3 none (dC, dI) (tysA cB cI cJ cZ cS) as 2 (mwS cB cI cJ cZ h a s) [(0, .ref h), (1, .int x1), (2, .int x2)] [] (fun u => u = (mwS cB cI cJ cZ h a s')) := by
  intro n
  induction n with
  | zero => intro s x1 x2 hB; exact none_ne hB
  | succ n ih => intro s x1 x2 hB; exact br_yearsGo_2 ih _ _ _ hB
set_option maxHeartbeats 4000000 in
set_option maxRecDepth 100000 in
theorem br_yearsGo {l : Launch} {dC : Nat → ClassId} {dI : Nat → Nat → Nat} {cB cI cJ cZ cS : ClassId} {h : Nat} {a : Nat → Nat} {as : List Value} {s' : RS} (s : RS) (x1 : Int32) (hB : r_yearsGo s x1 = some s') : BlkV l yX11_yearsGo wsX11_yearsGo ({ frames := 5, cells := 0, slots := 0, locals := 108 }) cX11_yearsGo 3 none (dC, dI) (tysA cB cI cJ cZ cS) as 0 (mwS cB cI cJ cZ h a s) [(0, .ref h), (1, .int x1)] [] (fun u => u = (mwS cB cI cJ cZ h a s')) := by
  intro p e s0 m below meth c A E H locs ls hP hD hS hl
  obtain ⟨C, hr, hlocks, hA, hK, hN⟩ := id E
  obtain ⟨hx, hb, hml, hown, hts⟩ := id C
  unfold r_yearsGo at hB
  refine lv_iconst (v := 0) hx hb dX11_yearsGo_0 (by decide) ?_
  refine lv_istore_n (lv' := [(2, .int 0), (0, .ref h), (1, .int x1)]) hx hb dX11_yearsGo_1 rfl hl (by decide) rfl (fun ls hl => ?_)
  exact br_yearsGo_2L fu _ _ _ hB p e s0 m below meth c A E H locs ls hP hD hS (lv_sub hl [1, 2, 0] rfl)
theorem cr_yearsGo {l : Launch} {dC : Nat → ClassId} {dI : Nat → Nat → Nat} {cB cI cJ cZ cS : ClassId} {h : Nat} {a : Nat → Nat} {s' : RS} {s : RS} {x1 : Int32} (hB : r_yearsGo s x1 = some s') : CV l yX11_yearsGo wsX11_yearsGo ({ frames := 5, cells := 0, slots := 0, locals := 108 }) (dC, dI) (tysA cB cI cJ cZ cS) (mwS cB cI cJ cZ h a s) [.ref h, .int x1] (fun u => u = (mwS cB cI cJ cZ h a s')) :=
  CV_of (cc := cX11_yearsGo) (maxL := 3) (ret := none) (by decide) rfl (Nat.le_of_ble_eq_true rfl) (br_yearsGo _ _ hB)
theorem LX11_wave_101 : Cond.fieldLink RX11 101 "GuessFerryModel" "row" "[I" ∈ wsX11_wave := (List.mem_cons_of_mem _ (List.mem_append_left _ (List.mem_append_left _ (List.mem_of_getElem? (i := 0) rfl))))
theorem inX11_wave_X11 : ∀ w ∈ u_ws RX11 TX11 58, w ∈ wsX11_wave := fun w h => (List.mem_cons_of_mem _ (List.mem_append_right _ h))
set_option maxHeartbeats 4000000 in
set_option maxRecDepth 100000 in
theorem br_wave {l : Launch} {dC : Nat → ClassId} {dI : Nat → Nat → Nat} {cB cI cJ cZ cS : ClassId} {h : Nat} {a : Nat → Nat} {as : List Value} {r : Int32} {s' : RS} (s : RS) (x1 : Int32) (x2 : Int32) (hB : r_wave s x1 x2 = some (r, s')) : BlkI l yX11_wave wsX11_wave ({ frames := 4, cells := 0, slots := 0, locals := 87 }) cX11_wave 3 (some .int) (dC, dI) (tysA cB cI cJ cZ cS) as 0 (mwS cB cI cJ cZ h a s) [(0, .ref h), (1, .int x1), (2, .int x2)] [] (fun x u => x = r ∧ u = (mwS cB cI cJ cZ h a s')) := by
  intro p e s0 m below meth c A E H locs ls hP hD hS hl
  obtain ⟨C, hr, hlocks, hA, hK, hN⟩ := id E
  obtain ⟨hx, hb, hml, hown, hts⟩ := id C
  unfold r_wave at hB
  refine lv_aload_n hx hb dX11_wave_0 rfl (lv_at hl 0 rfl) ?_
  refine lv_iload_n hx hb dX11_wave_1 rfl (lv_at hl 1 rfl) ?_
  obtain ⟨q_, s1, hc, hB⟩ := bindI_inv hB
  refine q_goiF (va_runV (As := [.int x1]) (rest := []) C (cr_isWave hc _) (cwV 1 hts gX11_wave_X11_isWave rfl rfl rfl (by decide +kernel) ⟨Nat.le_of_ble_eq_true rfl, Nat.le_of_ble_eq_true rfl⟩) (q_preV hK hP (ci := 11) (q0 := 0) rfl rfl rfl (q_preF hN hK hP hD)) rfl rfl hl.1 rfl (lv_room (Nat.le_of_ble_eq_true rfl)) dX11_wave_2 ⟨Nat.le_of_ble_eq_true rfl, Nat.le_of_ble_eq_true rfl⟩) hD hS hA (fun r2 w1 H locs hw hP hD hS => ?_)
  obtain ⟨hq_, hw⟩ := hw; subst hw; subst hq_
  refine lv_if_ne (tgt := 10) hx hb dX11_wave_5 (by decide) (fun c3 => ?_) (fun c3 => ?_)
  · have hB := if_n hB c3
    refine lv_aload_n hx hb dX11_wave_10 rfl (lv_at hl 0 rfl) ?_
    obtain ⟨s4, hc, hB⟩ := bindP_inv hB
    refine q_govF (va_runV (As := []) (rest := []) C (cr_copies hc _) (cwV 0 hts gX11_wave_X11_copies rfl rfl rfl (by decide +kernel) ⟨Nat.le_of_ble_eq_true rfl, Nat.le_of_ble_eq_true rfl⟩) (q_preV hK hP (ci := 11) (q0 := 0) rfl rfl rfl (q_preF hN hK hP hD)) rfl rfl hl.1 rfl (lv_room (Nat.le_of_ble_eq_true rfl)) dX11_wave_11 ⟨Nat.le_of_ble_eq_true rfl, Nat.le_of_ble_eq_true rfl⟩) hD hS hA (fun w1 H locs hw hP hD hS => ?_)
    subst hw
    refine lv_iload_n hx hb dX11_wave_14 rfl (lv_at hl 2 rfl) ?_
    by_cases e5 : x2 = 0
    · have hB := if_p hB e5
      refine q_top (y := 0) e5 ?_
      refine lv_tableIn (off := 37) (tgt := 52) hx hb dX11_wave_15 (by decide +kernel) (by decide +kernel) (by decide +kernel) (by decide) ?_
      refine lv_aload_n hx hb dX11_wave_52 rfl (lv_at hl 0 rfl) ?_
      refine lv_iload_n hx hb dX11_wave_53 rfl (lv_at hl 1 rfl) ?_
      obtain ⟨q_, s6, hc, hB⟩ := bindI_inv hB
      refine q_goiF (va_runV (As := [.int x1]) (rest := []) C (cr_mayAt hc _) (cwV 1 hts gX11_wave_X11_mayAt rfl rfl rfl (by decide +kernel) ⟨Nat.le_of_ble_eq_true rfl, Nat.le_of_ble_eq_true rfl⟩) (q_preV hK hP (ci := 11) (q0 := 0) rfl rfl rfl (q_preF hN hK hP hD)) rfl rfl hl.1 rfl (lv_room (Nat.le_of_ble_eq_true rfl)) dX11_wave_54 ⟨Nat.le_of_ble_eq_true rfl, Nat.le_of_ble_eq_true rfl⟩) hD hS hA (fun r7 w1 H locs hw hP hD hS => ?_)
      obtain ⟨hq_, hw⟩ := hw; subst hw; subst hq_
      exact q_iret C hr hlocks hK hP hD hS (Nat.le_of_ble_eq_true rfl) (Nat.le_of_ble_eq_true rfl) dX11_wave_57 (by cases hB; exact ⟨rfl, rfl⟩)
    · have hB := if_n hB e5
      by_cases e8 : x2 = 1
      · have hB := if_p hB e8
        refine q_top (y := 1) e8 ?_
        refine lv_tableIn (off := 43) (tgt := 58) hx hb dX11_wave_15 (by decide +kernel) (by decide +kernel) (by decide +kernel) (by decide) ?_
        refine lv_aload_n hx hb dX11_wave_58 rfl (lv_at hl 0 rfl) ?_
        refine q_get (v := .ref (a 44)) C inX11_wave_X11 hK hP 0 rfl rfl 44 (by decide) rfl LX11_wave_101 rfl dX11_wave_59 ?_
        refine lv_iconst (v := 5) hx hb dX11_wave_62 (by decide) ?_
        refine lv_iload_n hx hb dX11_wave_63 rfl (lv_at hl 1 rfl) ?_
        refine lv_iadd hx hb dX11_wave_64 ?_
        obtain ⟨g9, hB⟩ := guard_inv hB
        refine q_iald (x := (s4.f 44 (Int32.toNatClampNeg (5 + x1)))) C hK hP 28 1 rfl rfl (vpb_in g9) dX11_wave_65 rfl ?_
        exact q_iret C hr hlocks hK hP hD hS (Nat.le_of_ble_eq_true rfl) (Nat.le_of_ble_eq_true rfl) dX11_wave_66 (by cases hB; exact ⟨rfl, rfl⟩)
      · have hB := if_n hB e8
        by_cases e10 : x2 = 2
        · have hB := if_p hB e10
          refine q_top (y := 2) e10 ?_
          refine lv_tableIn (off := 52) (tgt := 67) hx hb dX11_wave_15 (by decide +kernel) (by decide +kernel) (by decide +kernel) (by decide) ?_
          refine lv_aload_n hx hb dX11_wave_67 rfl (lv_at hl 0 rfl) ?_
          refine q_get (v := .ref (a 44)) C inX11_wave_X11 hK hP 0 rfl rfl 44 (by decide) rfl LX11_wave_101 rfl dX11_wave_68 ?_
          refine lv_iload_n hx hb dX11_wave_71 rfl (lv_at hl 1 rfl) ?_
          obtain ⟨g11, hB⟩ := guard_inv hB
          refine q_iald (x := (s4.f 44 (Int32.toNatClampNeg x1))) C hK hP 28 1 rfl rfl (vpb_in g11) dX11_wave_72 rfl ?_
          exact q_iret C hr hlocks hK hP hD hS (Nat.le_of_ble_eq_true rfl) (Nat.le_of_ble_eq_true rfl) dX11_wave_73 (by cases hB; exact ⟨rfl, rfl⟩)
        · have hB := if_n hB e10
          by_cases e12 : x2 = 3
          · have hB := if_p hB e12
            refine q_top (y := 3) e12 ?_
            refine lv_tableIn (off := 59) (tgt := 74) hx hb dX11_wave_15 (by decide +kernel) (by decide +kernel) (by decide +kernel) (by decide) ?_
            refine lv_aload_n hx hb dX11_wave_74 rfl (lv_at hl 0 rfl) ?_
            refine q_get (v := .ref (a 44)) C inX11_wave_X11 hK hP 0 rfl rfl 44 (by decide) rfl LX11_wave_101 rfl dX11_wave_75 ?_
            refine lv_bipush (v := 10) hx hb dX11_wave_78 (by decide) ?_
            refine lv_iload_n hx hb dX11_wave_80 rfl (lv_at hl 1 rfl) ?_
            refine lv_iadd hx hb dX11_wave_81 ?_
            obtain ⟨g13, hB⟩ := guard_inv hB
            refine q_iald (x := (s4.f 44 (Int32.toNatClampNeg (10 + x1)))) C hK hP 28 1 rfl rfl (vpb_in g13) dX11_wave_82 rfl ?_
            exact q_iret C hr hlocks hK hP hD hS (Nat.le_of_ble_eq_true rfl) (Nat.le_of_ble_eq_true rfl) dX11_wave_83 (by cases hB; exact ⟨rfl, rfl⟩)
          · have hB := if_n hB e12
            by_cases e14 : x2 = 4
            · have hB := if_p hB e14
              refine q_top (y := 4) e14 ?_
              refine lv_tableIn (off := 69) (tgt := 84) hx hb dX11_wave_15 (by decide +kernel) (by decide +kernel) (by decide +kernel) (by decide) ?_
              refine lv_aload_n hx hb dX11_wave_84 rfl (lv_at hl 0 rfl) ?_
              refine lv_iload_n hx hb dX11_wave_85 rfl (lv_at hl 1 rfl) ?_
              obtain ⟨q_, s15, hc, hB⟩ := bindI_inv hB
              refine q_goiF (va_runV (As := [.int x1]) (rest := []) C (cr_thereAt hc _) (cwV 1 hts gX11_wave_X11_thereAt rfl rfl rfl (by decide +kernel) ⟨Nat.le_of_ble_eq_true rfl, Nat.le_of_ble_eq_true rfl⟩) (q_preV hK hP (ci := 11) (q0 := 0) rfl rfl rfl (q_preF hN hK hP hD)) rfl rfl hl.1 rfl (lv_room (Nat.le_of_ble_eq_true rfl)) dX11_wave_86 ⟨Nat.le_of_ble_eq_true rfl, Nat.le_of_ble_eq_true rfl⟩) hD hS hA (fun r16 w1 H locs hw hP hD hS => ?_)
              obtain ⟨hq_, hw⟩ := hw; subst hw; subst hq_
              exact q_iret C hr hlocks hK hP hD hS (Nat.le_of_ble_eq_true rfl) (Nat.le_of_ble_eq_true rfl) dX11_wave_89 (by cases hB; exact ⟨rfl, rfl⟩)
            · have hB := if_n hB e14
              by_cases e17 : x2 = 5
              · have hB := if_p hB e17
                refine q_top (y := 5) e17 ?_
                refine lv_tableIn (off := 75) (tgt := 90) hx hb dX11_wave_15 (by decide +kernel) (by decide +kernel) (by decide +kernel) (by decide) ?_
                refine lv_aload_n hx hb dX11_wave_90 rfl (lv_at hl 0 rfl) ?_
                refine lv_iload_n hx hb dX11_wave_91 rfl (lv_at hl 1 rfl) ?_
                obtain ⟨q_, s18, hc, hB⟩ := bindI_inv hB
                refine q_goiF (va_runV (As := [.int x1]) (rest := []) C (cr_shiftsOf hc _) (cwV 1 hts gX11_wave_X11_shiftsOf rfl rfl rfl (by decide +kernel) ⟨Nat.le_of_ble_eq_true rfl, Nat.le_of_ble_eq_true rfl⟩) (q_preV hK hP (ci := 11) (q0 := 0) rfl rfl rfl (q_preF hN hK hP hD)) rfl rfl hl.1 rfl (lv_room (Nat.le_of_ble_eq_true rfl)) dX11_wave_92 ⟨Nat.le_of_ble_eq_true rfl, Nat.le_of_ble_eq_true rfl⟩) hD hS hA (fun r19 w1 H locs hw hP hD hS => ?_)
                obtain ⟨hq_, hw⟩ := hw; subst hw; subst hq_
                exact q_iret C hr hlocks hK hP hD hS (Nat.le_of_ble_eq_true rfl) (Nat.le_of_ble_eq_true rfl) dX11_wave_95 (by cases hB; exact ⟨rfl, rfl⟩)
              · have hB := if_n hB e17
                refine lv_tableOut (tgt := 96) hx hb dX11_wave_15 (by have := ne_toInt (k := 0) rfl e5; have := ne_toInt (k := 1) rfl e8; have := ne_toInt (k := 2) rfl e10; have := ne_toInt (k := 3) rfl e12; have := ne_toInt (k := 4) rfl e14; have := ne_toInt (k := 5) rfl e17; omega) (by decide) ?_
                refine lv_iconst (v := (-1)) hx hb dX11_wave_96 (by decide) ?_
                exact q_iret C hr hlocks hK hP hD hS (Nat.le_of_ble_eq_true rfl) (Nat.le_of_ble_eq_true rfl) dX11_wave_97 (by cases hB; exact ⟨rfl, rfl⟩)
  · have hB := if_p hB c3
    refine lv_iconst (v := (-1)) hx hb dX11_wave_8 (by decide) ?_
    exact q_iret C hr hlocks hK hP hD hS (Nat.le_of_ble_eq_true rfl) (Nat.le_of_ble_eq_true rfl) dX11_wave_9 (by cases hB; exact ⟨rfl, rfl⟩)
theorem cr_wave {l : Launch} {dC : Nat → ClassId} {dI : Nat → Nat → Nat} {cB cI cJ cZ cS : ClassId} {h : Nat} {a : Nat → Nat} {r : Int32} {s' : RS} {s : RS} {x1 : Int32} {x2 : Int32} (hB : r_wave s x1 x2 = some (r, s')) : CI l yX11_wave wsX11_wave ({ frames := 4, cells := 0, slots := 0, locals := 87 }) (dC, dI) (tysA cB cI cJ cZ cS) (mwS cB cI cJ cZ h a s) [.ref h, .int x1, .int x2] (fun x u => x = r ∧ u = (mwS cB cI cJ cZ h a s')) :=
  CI_of (cc := cX11_wave) (maxL := 3) (ret := (some .int)) (by decide) rfl (Nat.le_of_ble_eq_true rfl) (br_wave _ _ _ hB)
set_option maxHeartbeats 4000000 in
set_option maxRecDepth 100000 in
theorem br_odds {l : Launch} {dC : Nat → ClassId} {dI : Nat → Nat → Nat} {cB cI cJ cZ cS : ClassId} {h : Nat} {a : Nat → Nat} {as : List Value} {r : Int32} {s' : RS} (s : RS) (x1 : Int32) (x2 : Int32) (hB : r_odds s x1 x2 = some (r, s')) : BlkI l yX11_odds wsX11_odds ({ frames := 2, cells := 0, slots := 0, locals := 43 }) cX11_odds 3 (some .int) (dC, dI) (tysA cB cI cJ cZ cS) as 0 (mwS cB cI cJ cZ h a s) [(0, .ref h), (1, .int x1), (2, .int x2)] [] (fun x u => x = r ∧ u = (mwS cB cI cJ cZ h a s')) := by
  intro p e s0 m below meth c A E H locs ls hP hD hS hl
  obtain ⟨C, hr, hlocks, hA, hK, hN⟩ := id E
  obtain ⟨hx, hb, hml, hown, hts⟩ := id C
  unfold r_odds at hB
  refine lv_aload_n hx hb dX11_odds_0 rfl (lv_at hl 0 rfl) ?_
  refine lv_iload_n hx hb dX11_odds_1 rfl (lv_at hl 1 rfl) ?_
  obtain ⟨q_, s1, hc, hB⟩ := bindI_inv hB
  refine q_goiF (va_runV (As := [.int x1]) (rest := []) C (cr_isWave hc _) (cwV 1 hts gX11_odds_X11_isWave rfl rfl rfl (by decide +kernel) ⟨Nat.le_of_ble_eq_true rfl, Nat.le_of_ble_eq_true rfl⟩) (q_preV hK hP (ci := 11) (q0 := 0) rfl rfl rfl (q_preF hN hK hP hD)) rfl rfl hl.1 rfl (lv_room (Nat.le_of_ble_eq_true rfl)) dX11_odds_2 ⟨Nat.le_of_ble_eq_true rfl, Nat.le_of_ble_eq_true rfl⟩) hD hS hA (fun r2 w1 H locs hw hP hD hS => ?_)
  obtain ⟨hq_, hw⟩ := hw; subst hw; subst hq_
  refine lv_if_eq (tgt := 24) hx hb dX11_odds_5 (by decide) (fun c3 => ?_) (fun c3 => ?_)
  · have hB := if_p hB c3
    refine lv_iconst (v := (-1)) hx hb dX11_odds_24 (by decide) ?_
    exact q_iret C hr hlocks hK hP hD hS (Nat.le_of_ble_eq_true rfl) (Nat.le_of_ble_eq_true rfl) dX11_odds_25 (by cases hB; exact ⟨rfl, rfl⟩)
  · have hB := if_n hB c3
    refine lv_iload_n hx hb dX11_odds_8 rfl (lv_at hl 2 rfl) ?_
    obtain ⟨q_, hc, hB⟩ := bindP_inv hB
    refine q_goi0 (va_runS (As := [.int x2]) (rest := []) C (cr_isThing hc _) (va_cwS 1 hts gX11_odds_X11_isThing rfl rfl rfl (by decide +kernel) ⟨Nat.le_of_ble_eq_true rfl, Nat.le_of_ble_eq_true rfl⟩) (q_pre0 hN hK) rfl rfl hl.1 rfl (lv_room (Nat.le_of_ble_eq_true rfl)) dX11_odds_9 ⟨Nat.le_of_ble_eq_true rfl, Nat.le_of_ble_eq_true rfl⟩) hP hD hS hA (fun r4 w1 H locs hw hP hS => ?_)
    subst hw
    refine lv_if_eq (tgt := 24) hx hb dX11_odds_12 (by decide) (fun c5 => ?_) (fun c5 => ?_)
    · have hB := if_p hB c5
      refine lv_iconst (v := (-1)) hx hb dX11_odds_24 (by decide) ?_
      exact q_iret C hr hlocks hK hP hD hS (Nat.le_of_ble_eq_true rfl) (Nat.le_of_ble_eq_true rfl) dX11_odds_25 (by cases hB; exact ⟨rfl, rfl⟩)
    · have hB := if_n hB c5
      refine lv_aload_n hx hb dX11_odds_15 rfl (lv_at hl 0 rfl) ?_
      refine lv_iload_n hx hb dX11_odds_16 rfl (lv_at hl 1 rfl) ?_
      refine lv_iload_n hx hb dX11_odds_17 rfl (lv_at hl 2 rfl) ?_
      obtain ⟨q_, s6, hc, hB⟩ := bindI_inv hB
      refine q_goiF (va_runV (As := [.int x1, .int x2]) (rest := []) C (cr_oddsAt hc _) (cwV 2 hts gX11_odds_X11_oddsAt rfl rfl rfl (by decide +kernel) ⟨Nat.le_of_ble_eq_true rfl, Nat.le_of_ble_eq_true rfl⟩) (q_preV hK hP (ci := 11) (q0 := 0) rfl rfl rfl (q_preF hN hK hP hD)) rfl rfl hl.1 rfl (lv_room (Nat.le_of_ble_eq_true rfl)) dX11_odds_18 ⟨Nat.le_of_ble_eq_true rfl, Nat.le_of_ble_eq_true rfl⟩) hD hS hA (fun r7 w1 H locs hw hP hD hS => ?_)
      obtain ⟨hq_, hw⟩ := hw; subst hw; subst hq_
      refine lv_goto (tgt := 25) hx hb dX11_odds_21 (by decide) ?_
      exact q_iret C hr hlocks hK hP hD hS (Nat.le_of_ble_eq_true rfl) (Nat.le_of_ble_eq_true rfl) dX11_odds_25 (by cases hB; exact ⟨rfl, rfl⟩)
theorem cr_odds {l : Launch} {dC : Nat → ClassId} {dI : Nat → Nat → Nat} {cB cI cJ cZ cS : ClassId} {h : Nat} {a : Nat → Nat} {r : Int32} {s' : RS} {s : RS} {x1 : Int32} {x2 : Int32} (hB : r_odds s x1 x2 = some (r, s')) : CI l yX11_odds wsX11_odds ({ frames := 2, cells := 0, slots := 0, locals := 43 }) (dC, dI) (tysA cB cI cJ cZ cS) (mwS cB cI cJ cZ h a s) [.ref h, .int x1, .int x2] (fun x u => x = r ∧ u = (mwS cB cI cJ cZ h a s')) :=
  CI_of (cc := cX11_odds) (maxL := 3) (ret := (some .int)) (by decide) rfl (Nat.le_of_ble_eq_true rfl) (br_odds _ _ _ hB)
theorem LX11_party_101 : Cond.fieldLink RX11 101 "GuessFerryModel" "row" "[I" ∈ wsX11_party := (List.mem_cons_of_mem _ (List.mem_append_left _ (List.mem_append_left _ (List.mem_of_getElem? (i := 3) rfl))))
theorem LX11_party_215 : Cond.fieldLink RX11 215 "GuessFerryModel" "live" "I" ∈ wsX11_party := (List.mem_cons_of_mem _ (List.mem_append_left _ (List.mem_append_left _ (List.mem_of_getElem? (i := 1) rfl))))
theorem LX11_party_52 : Cond.fieldLink RX11 52 "GuessFerryModel" "heavyOf" "[I" ∈ wsX11_party := (List.mem_cons_of_mem _ (List.mem_append_left _ (List.mem_append_left _ (List.mem_of_getElem? (i := 0) rfl))))
theorem LX11_party_55 : Cond.fieldLink RX11 55 "GuessFerryModel" "nerveOf" "[I" ∈ wsX11_party := (List.mem_cons_of_mem _ (List.mem_append_left _ (List.mem_append_left _ (List.mem_of_getElem? (i := 2) rfl))))
theorem inX11_party_X11 : ∀ w ∈ u_ws RX11 TX11 58, w ∈ wsX11_party := fun w h => (List.mem_cons_of_mem _ (List.mem_append_right _ h))
set_option maxHeartbeats 4000000 in
set_option maxRecDepth 100000 in
theorem br_party {l : Launch} {dC : Nat → ClassId} {dI : Nat → Nat → Nat} {cB cI cJ cZ cS : ClassId} {h : Nat} {a : Nat → Nat} {as : List Value} {r : Int32} {s' : RS} (s : RS) (x1 : Int32) (x2 : Int32) (hB : r_party s x1 x2 = some (r, s')) : BlkI l yX11_party wsX11_party ({ frames := 3, cells := 0, slots := 0, locals := 74 }) cX11_party 3 (some .int) (dC, dI) (tysA cB cI cJ cZ cS) as 0 (mwS cB cI cJ cZ h a s) [(0, .ref h), (1, .int x1), (2, .int x2)] [] (fun x u => x = r ∧ u = (mwS cB cI cJ cZ h a s')) := by
  intro p e s0 m below meth c A E H locs ls hP hD hS hl
  obtain ⟨C, hr, hlocks, hA, hK, hN⟩ := id E
  obtain ⟨hx, hb, hml, hown, hts⟩ := id C
  unfold r_party at hB
  refine lv_aload_n hx hb dX11_party_0 rfl (lv_at hl 0 rfl) ?_
  refine lv_iload_n hx hb dX11_party_1 rfl (lv_at hl 1 rfl) ?_
  obtain ⟨q_, s1, hc, hB⟩ := bindI_inv hB
  refine q_goiF (va_runV (As := [.int x1]) (rest := []) C (cr_isParty hc _) (cwV 1 hts gX11_party_X11_isParty rfl rfl rfl (by decide +kernel) ⟨Nat.le_of_ble_eq_true rfl, Nat.le_of_ble_eq_true rfl⟩) (q_preV hK hP (ci := 11) (q0 := 0) rfl rfl rfl (q_preF hN hK hP hD)) rfl rfl hl.1 rfl (lv_room (Nat.le_of_ble_eq_true rfl)) dX11_party_2 ⟨Nat.le_of_ble_eq_true rfl, Nat.le_of_ble_eq_true rfl⟩) hD hS hA (fun r2 w1 H locs hw hP hD hS => ?_)
  obtain ⟨hq_, hw⟩ := hw; subst hw; subst hq_
  refine lv_if_ne (tgt := 10) hx hb dX11_party_5 (by decide) (fun c3 => ?_) (fun c3 => ?_)
  · have hB := if_n hB c3
    refine lv_aload_n hx hb dX11_party_10 rfl (lv_at hl 0 rfl) ?_
    obtain ⟨s4, hc, hB⟩ := bindP_inv hB
    refine q_govF (va_runV (As := []) (rest := []) C (cr_copies hc _) (cwV 0 hts gX11_party_X11_copies rfl rfl rfl (by decide +kernel) ⟨Nat.le_of_ble_eq_true rfl, Nat.le_of_ble_eq_true rfl⟩) (q_preV hK hP (ci := 11) (q0 := 0) rfl rfl rfl (q_preF hN hK hP hD)) rfl rfl hl.1 rfl (lv_room (Nat.le_of_ble_eq_true rfl)) dX11_party_11 ⟨Nat.le_of_ble_eq_true rfl, Nat.le_of_ble_eq_true rfl⟩) hD hS hA (fun w1 H locs hw hP hD hS => ?_)
    subst hw
    refine lv_iload_n hx hb dX11_party_14 rfl (lv_at hl 2 rfl) ?_
    by_cases e5 : x2 = 0
    · have hB := if_p hB e5
      refine q_top (y := 0) e5 ?_
      refine lv_tableIn (off := 37) (tgt := 52) hx hb dX11_party_15 (by decide +kernel) (by decide +kernel) (by decide +kernel) (by decide) ?_
      refine lv_aload_n hx hb dX11_party_52 rfl (lv_at hl 0 rfl) ?_
      refine q_get (v := .ref (a 24)) C inX11_party_X11 hK hP 0 rfl rfl 24 (by decide) rfl LX11_party_52 rfl dX11_party_53 ?_
      refine lv_bipush (v := 6) hx hb dX11_party_56 (by decide) ?_
      refine lv_aload_n hx hb dX11_party_58 rfl (lv_at hl 0 rfl) ?_
      refine q_get (v := .int (s4.v 18)) C inX11_party_X11 hK hP 0 rfl rfl 18 (by decide) rfl LX11_party_215 rfl dX11_party_59 ?_
      refine lv_imul hx hb dX11_party_62 ?_
      refine lv_iload_n hx hb dX11_party_63 rfl (lv_at hl 1 rfl) ?_
      refine lv_iadd hx hb dX11_party_64 ?_
      obtain ⟨g6, hB⟩ := guard_inv hB
      refine q_iald (x := (s4.f 24 (Int32.toNatClampNeg ((6 * (s4.v 18)) + x1)))) C hK hP 12 1 rfl rfl (vpb_in g6) dX11_party_65 rfl ?_
      exact q_iret C hr hlocks hK hP hD hS (Nat.le_of_ble_eq_true rfl) (Nat.le_of_ble_eq_true rfl) dX11_party_66 (by cases hB; exact ⟨rfl, rfl⟩)
    · have hB := if_n hB e5
      by_cases e7 : x2 = 1
      · have hB := if_p hB e7
        refine q_top (y := 1) e7 ?_
        refine lv_tableIn (off := 52) (tgt := 67) hx hb dX11_party_15 (by decide +kernel) (by decide +kernel) (by decide +kernel) (by decide) ?_
        refine lv_aload_n hx hb dX11_party_67 rfl (lv_at hl 0 rfl) ?_
        refine q_get (v := .ref (a 25)) C inX11_party_X11 hK hP 0 rfl rfl 25 (by decide) rfl LX11_party_55 rfl dX11_party_68 ?_
        refine lv_bipush (v := 6) hx hb dX11_party_71 (by decide) ?_
        refine lv_aload_n hx hb dX11_party_73 rfl (lv_at hl 0 rfl) ?_
        refine q_get (v := .int (s4.v 18)) C inX11_party_X11 hK hP 0 rfl rfl 18 (by decide) rfl LX11_party_215 rfl dX11_party_74 ?_
        refine lv_imul hx hb dX11_party_77 ?_
        refine lv_iload_n hx hb dX11_party_78 rfl (lv_at hl 1 rfl) ?_
        refine lv_iadd hx hb dX11_party_79 ?_
        obtain ⟨g8, hB⟩ := guard_inv hB
        refine q_iald (x := (s4.f 25 (Int32.toNatClampNeg ((6 * (s4.v 18)) + x1)))) C hK hP 13 1 rfl rfl (vpb_in g8) dX11_party_80 rfl ?_
        exact q_iret C hr hlocks hK hP hD hS (Nat.le_of_ble_eq_true rfl) (Nat.le_of_ble_eq_true rfl) dX11_party_81 (by cases hB; exact ⟨rfl, rfl⟩)
      · have hB := if_n hB e7
        by_cases e9 : x2 = 2
        · have hB := if_p hB e9
          refine q_top (y := 2) e9 ?_
          refine lv_tableIn (off := 67) (tgt := 82) hx hb dX11_party_15 (by decide +kernel) (by decide +kernel) (by decide +kernel) (by decide) ?_
          refine lv_aload_n hx hb dX11_party_82 rfl (lv_at hl 0 rfl) ?_
          refine q_get (v := .ref (a 44)) C inX11_party_X11 hK hP 0 rfl rfl 44 (by decide) rfl LX11_party_101 rfl dX11_party_83 ?_
          refine lv_bipush (v := 15) hx hb dX11_party_86 (by decide) ?_
          refine lv_iload_n hx hb dX11_party_88 rfl (lv_at hl 1 rfl) ?_
          refine lv_iadd hx hb dX11_party_89 ?_
          obtain ⟨g10, hB⟩ := guard_inv hB
          refine q_iald (x := (s4.f 44 (Int32.toNatClampNeg (15 + x1)))) C hK hP 28 1 rfl rfl (vpb_in g10) dX11_party_90 rfl ?_
          exact q_iret C hr hlocks hK hP hD hS (Nat.le_of_ble_eq_true rfl) (Nat.le_of_ble_eq_true rfl) dX11_party_91 (by cases hB; exact ⟨rfl, rfl⟩)
        · have hB := if_n hB e9
          by_cases e11 : x2 = 3
          · have hB := if_p hB e11
            refine q_top (y := 3) e11 ?_
            refine lv_tableIn (off := 77) (tgt := 92) hx hb dX11_party_15 (by decide +kernel) (by decide +kernel) (by decide +kernel) (by decide) ?_
            refine lv_aload_n hx hb dX11_party_92 rfl (lv_at hl 0 rfl) ?_
            refine q_get (v := .ref (a 44)) C inX11_party_X11 hK hP 0 rfl rfl 44 (by decide) rfl LX11_party_101 rfl dX11_party_93 ?_
            refine lv_bipush (v := 21) hx hb dX11_party_96 (by decide) ?_
            refine lv_iload_n hx hb dX11_party_98 rfl (lv_at hl 1 rfl) ?_
            refine lv_iadd hx hb dX11_party_99 ?_
            obtain ⟨g12, hB⟩ := guard_inv hB
            refine q_iald (x := (s4.f 44 (Int32.toNatClampNeg (21 + x1)))) C hK hP 28 1 rfl rfl (vpb_in g12) dX11_party_100 rfl ?_
            exact q_iret C hr hlocks hK hP hD hS (Nat.le_of_ble_eq_true rfl) (Nat.le_of_ble_eq_true rfl) dX11_party_101 (by cases hB; exact ⟨rfl, rfl⟩)
          · have hB := if_n hB e11
            by_cases e13 : x2 = 4
            · have hB := if_p hB e13
              refine q_top (y := 4) e13 ?_
              refine lv_tableIn (off := 87) (tgt := 102) hx hb dX11_party_15 (by decide +kernel) (by decide +kernel) (by decide +kernel) (by decide) ?_
              refine lv_aload_n hx hb dX11_party_102 rfl (lv_at hl 0 rfl) ?_
              refine lv_iload_n hx hb dX11_party_103 rfl (lv_at hl 1 rfl) ?_
              obtain ⟨q_, s14, hc, hB⟩ := bindI_inv hB
              refine q_goiF (va_runV (As := [.int x1]) (rest := []) C (cr_faresOf hc _) (cwV 1 hts gX11_party_X11_faresOf rfl rfl rfl (by decide +kernel) ⟨Nat.le_of_ble_eq_true rfl, Nat.le_of_ble_eq_true rfl⟩) (q_preV hK hP (ci := 11) (q0 := 0) rfl rfl rfl (q_preF hN hK hP hD)) rfl rfl hl.1 rfl (lv_room (Nat.le_of_ble_eq_true rfl)) dX11_party_104 ⟨Nat.le_of_ble_eq_true rfl, Nat.le_of_ble_eq_true rfl⟩) hD hS hA (fun r15 w1 H locs hw hP hD hS => ?_)
              obtain ⟨hq_, hw⟩ := hw; subst hw; subst hq_
              exact q_iret C hr hlocks hK hP hD hS (Nat.le_of_ble_eq_true rfl) (Nat.le_of_ble_eq_true rfl) dX11_party_107 (by cases hB; exact ⟨rfl, rfl⟩)
            · have hB := if_n hB e13
              by_cases e16 : x2 = 5
              · have hB := if_p hB e16
                refine q_top (y := 5) e16 ?_
                refine lv_tableIn (off := 93) (tgt := 108) hx hb dX11_party_15 (by decide +kernel) (by decide +kernel) (by decide +kernel) (by decide) ?_
                refine lv_aload_n hx hb dX11_party_108 rfl (lv_at hl 0 rfl) ?_
                refine lv_iload_n hx hb dX11_party_109 rfl (lv_at hl 1 rfl) ?_
                obtain ⟨q_, s17, hc, hB⟩ := bindI_inv hB
                refine q_goiF (va_runV (As := [.int x1]) (rest := []) C (cr_doesDare hc _) (cwV 1 hts gX11_party_X11_doesDare rfl rfl rfl (by decide +kernel) ⟨Nat.le_of_ble_eq_true rfl, Nat.le_of_ble_eq_true rfl⟩) (q_preV hK hP (ci := 11) (q0 := 0) rfl rfl rfl (q_preF hN hK hP hD)) rfl rfl hl.1 rfl (lv_room (Nat.le_of_ble_eq_true rfl)) dX11_party_110 ⟨Nat.le_of_ble_eq_true rfl, Nat.le_of_ble_eq_true rfl⟩) hD hS hA (fun r18 w1 H locs hw hP hD hS => ?_)
                obtain ⟨hq_, hw⟩ := hw; subst hw; subst hq_
                refine lv_if_eq (tgt := 120) hx hb dX11_party_113 (by decide) (fun c19 => ?_) (fun c19 => ?_)
                · have hB := if_p hB c19
                  refine lv_iconst (v := 0) hx hb dX11_party_120 (by decide) ?_
                  exact q_iret C hr hlocks hK hP hD hS (Nat.le_of_ble_eq_true rfl) (Nat.le_of_ble_eq_true rfl) dX11_party_121 (by cases hB; exact ⟨rfl, rfl⟩)
                · have hB := if_n hB c19
                  refine lv_iconst (v := 1) hx hb dX11_party_116 (by decide) ?_
                  refine lv_goto (tgt := 121) hx hb dX11_party_117 (by decide) ?_
                  exact q_iret C hr hlocks hK hP hD hS (Nat.le_of_ble_eq_true rfl) (Nat.le_of_ble_eq_true rfl) dX11_party_121 (by cases hB; exact ⟨rfl, rfl⟩)
              · have hB := if_n hB e16
                refine lv_tableOut (tgt := 122) hx hb dX11_party_15 (by have := ne_toInt (k := 0) rfl e5; have := ne_toInt (k := 1) rfl e7; have := ne_toInt (k := 2) rfl e9; have := ne_toInt (k := 3) rfl e11; have := ne_toInt (k := 4) rfl e13; have := ne_toInt (k := 5) rfl e16; omega) (by decide) ?_
                refine lv_iconst (v := (-1)) hx hb dX11_party_122 (by decide) ?_
                exact q_iret C hr hlocks hK hP hD hS (Nat.le_of_ble_eq_true rfl) (Nat.le_of_ble_eq_true rfl) dX11_party_123 (by cases hB; exact ⟨rfl, rfl⟩)
  · have hB := if_p hB c3
    refine lv_iconst (v := (-1)) hx hb dX11_party_8 (by decide) ?_
    exact q_iret C hr hlocks hK hP hD hS (Nat.le_of_ble_eq_true rfl) (Nat.le_of_ble_eq_true rfl) dX11_party_9 (by cases hB; exact ⟨rfl, rfl⟩)
theorem cr_party {l : Launch} {dC : Nat → ClassId} {dI : Nat → Nat → Nat} {cB cI cJ cZ cS : ClassId} {h : Nat} {a : Nat → Nat} {r : Int32} {s' : RS} {s : RS} {x1 : Int32} {x2 : Int32} (hB : r_party s x1 x2 = some (r, s')) : CI l yX11_party wsX11_party ({ frames := 3, cells := 0, slots := 0, locals := 74 }) (dC, dI) (tysA cB cI cJ cZ cS) (mwS cB cI cJ cZ h a s) [.ref h, .int x1, .int x2] (fun x u => x = r ∧ u = (mwS cB cI cJ cZ h a s')) :=
  CI_of (cc := cX11_party) (maxL := 3) (ret := (some .int)) (by decide) rfl (Nat.le_of_ble_eq_true rfl) (br_party _ _ _ hB)
set_option maxHeartbeats 4000000 in
set_option maxRecDepth 100000 in
theorem br_needs {l : Launch} {dC : Nat → ClassId} {dI : Nat → Nat → Nat} {cB cI cJ cZ cS : ClassId} {h : Nat} {a : Nat → Nat} {as : List Value} {r : Int32} {s' : RS} (s : RS) (x1 : Int32) (x2 : Int32) (x3 : Int32) (hB : r_needs s x1 x2 x3 = some (r, s')) : BlkI l yX11_needs wsX11_needs ({ frames := 4, cells := 0, slots := 0, locals := 89 }) cX11_needs 4 (some .int) (dC, dI) (tysA cB cI cJ cZ cS) as 0 (mwS cB cI cJ cZ h a s) [(0, .ref h), (1, .int x1), (2, .int x2), (3, .int x3)] [] (fun x u => x = r ∧ u = (mwS cB cI cJ cZ h a s')) := by
  intro p e s0 m below meth c A E H locs ls hP hD hS hl
  obtain ⟨C, hr, hlocks, hA, hK, hN⟩ := id E
  obtain ⟨hx, hb, hml, hown, hts⟩ := id C
  unfold r_needs at hB
  refine lv_aload_n hx hb dX11_needs_0 rfl (lv_at hl 0 rfl) ?_
  refine lv_iload_n hx hb dX11_needs_1 rfl (lv_at hl 1 rfl) ?_
  obtain ⟨q_, s1, hc, hB⟩ := bindI_inv hB
  refine q_goiF (va_runV (As := [.int x1]) (rest := []) C (cr_isParty hc _) (cwV 1 hts gX11_needs_X11_isParty rfl rfl rfl (by decide +kernel) ⟨Nat.le_of_ble_eq_true rfl, Nat.le_of_ble_eq_true rfl⟩) (q_preV hK hP (ci := 11) (q0 := 0) rfl rfl rfl (q_preF hN hK hP hD)) rfl rfl hl.1 rfl (lv_room (Nat.le_of_ble_eq_true rfl)) dX11_needs_2 ⟨Nat.le_of_ble_eq_true rfl, Nat.le_of_ble_eq_true rfl⟩) hD hS hA (fun r2 w1 H locs hw hP hD hS => ?_)
  obtain ⟨hq_, hw⟩ := hw; subst hw; subst hq_
  refine lv_if_eq (tgt := 23) hx hb dX11_needs_5 (by decide) (fun c3 => ?_) (fun c3 => ?_)
  · have hB := if_p hB c3
    refine lv_iconst (v := (-1)) hx hb dX11_needs_23 (by decide) ?_
    exact q_iret C hr hlocks hK hP hD hS (Nat.le_of_ble_eq_true rfl) (Nat.le_of_ble_eq_true rfl) dX11_needs_24 (by cases hB; exact ⟨rfl, rfl⟩)
  · have hB := if_n hB c3
    refine lv_aload_n hx hb dX11_needs_8 rfl (lv_at hl 0 rfl) ?_
    refine lv_iload_n hx hb dX11_needs_9 rfl (lv_at hl 2 rfl) ?_
    obtain ⟨q_, s4, hc, hB⟩ := bindI_inv hB
    refine q_goiF (va_runV (As := [.int x2]) (rest := []) C (cr_isWave hc _) (cwV 1 hts gX11_needs_X11_isWave rfl rfl rfl (by decide +kernel) ⟨Nat.le_of_ble_eq_true rfl, Nat.le_of_ble_eq_true rfl⟩) (q_preV hK hP (ci := 11) (q0 := 0) rfl rfl rfl (q_preF hN hK hP hD)) rfl rfl hl.1 rfl (lv_room (Nat.le_of_ble_eq_true rfl)) dX11_needs_10 ⟨Nat.le_of_ble_eq_true rfl, Nat.le_of_ble_eq_true rfl⟩) hD hS hA (fun r5 w1 H locs hw hP hD hS => ?_)
    obtain ⟨hq_, hw⟩ := hw; subst hw; subst hq_
    refine lv_if_eq (tgt := 23) hx hb dX11_needs_13 (by decide) (fun c6 => ?_) (fun c6 => ?_)
    · have hB := if_p hB c6
      refine lv_iconst (v := (-1)) hx hb dX11_needs_23 (by decide) ?_
      exact q_iret C hr hlocks hK hP hD hS (Nat.le_of_ble_eq_true rfl) (Nat.le_of_ble_eq_true rfl) dX11_needs_24 (by cases hB; exact ⟨rfl, rfl⟩)
    · have hB := if_n hB c6
      refine lv_iload_n hx hb dX11_needs_16 rfl (lv_at hl 3 rfl) ?_
      obtain ⟨q_, hc, hB⟩ := bindP_inv hB
      refine q_goi0 (va_runS (As := [.int x3]) (rest := []) C (cr_isThing hc _) (va_cwS 1 hts gX11_needs_X11_isThing rfl rfl rfl (by decide +kernel) ⟨Nat.le_of_ble_eq_true rfl, Nat.le_of_ble_eq_true rfl⟩) (q_pre0 hN hK) rfl rfl hl.1 rfl (lv_room (Nat.le_of_ble_eq_true rfl)) dX11_needs_17 ⟨Nat.le_of_ble_eq_true rfl, Nat.le_of_ble_eq_true rfl⟩) hP hD hS hA (fun r7 w1 H locs hw hP hS => ?_)
      subst hw
      refine lv_if_ne (tgt := 25) hx hb dX11_needs_20 (by decide) (fun c8 => ?_) (fun c8 => ?_)
      · have hB := if_n hB c8
        refine lv_aload_n hx hb dX11_needs_25 rfl (lv_at hl 0 rfl) ?_
        obtain ⟨s9, hc, hB⟩ := bindP_inv hB
        refine q_govF (va_runV (As := []) (rest := []) C (cr_copies hc _) (cwV 0 hts gX11_needs_X11_copies rfl rfl rfl (by decide +kernel) ⟨Nat.le_of_ble_eq_true rfl, Nat.le_of_ble_eq_true rfl⟩) (q_preV hK hP (ci := 11) (q0 := 0) rfl rfl rfl (q_preF hN hK hP hD)) rfl rfl hl.1 rfl (lv_room (Nat.le_of_ble_eq_true rfl)) dX11_needs_26 ⟨Nat.le_of_ble_eq_true rfl, Nat.le_of_ble_eq_true rfl⟩) hD hS hA (fun w1 H locs hw hP hD hS => ?_)
        subst hw
        refine lv_aload_n hx hb dX11_needs_29 rfl (lv_at hl 0 rfl) ?_
        refine lv_iload_n hx hb dX11_needs_30 rfl (lv_at hl 1 rfl) ?_
        refine lv_iload_n hx hb dX11_needs_31 rfl (lv_at hl 2 rfl) ?_
        refine lv_iload_n hx hb dX11_needs_32 rfl (lv_at hl 3 rfl) ?_
        obtain ⟨q_, s10, hc, hB⟩ := bindI_inv hB
        refine q_goiF (va_runV (As := [.int x1, .int x2, .int x3]) (rest := []) C (cr_needsOf hc _) (cwV 3 hts gX11_needs_X11_needsOf rfl rfl rfl (by decide +kernel) ⟨Nat.le_of_ble_eq_true rfl, Nat.le_of_ble_eq_true rfl⟩) (q_preV hK hP (ci := 11) (q0 := 0) rfl rfl rfl (q_preF hN hK hP hD)) rfl rfl hl.1 rfl (lv_room (Nat.le_of_ble_eq_true rfl)) dX11_needs_33 ⟨Nat.le_of_ble_eq_true rfl, Nat.le_of_ble_eq_true rfl⟩) hD hS hA (fun r11 w1 H locs hw hP hD hS => ?_)
        obtain ⟨hq_, hw⟩ := hw; subst hw; subst hq_
        exact q_iret C hr hlocks hK hP hD hS (Nat.le_of_ble_eq_true rfl) (Nat.le_of_ble_eq_true rfl) dX11_needs_36 (by cases hB; exact ⟨rfl, rfl⟩)
      · have hB := if_p hB c8
        refine lv_iconst (v := (-1)) hx hb dX11_needs_23 (by decide) ?_
        exact q_iret C hr hlocks hK hP hD hS (Nat.le_of_ble_eq_true rfl) (Nat.le_of_ble_eq_true rfl) dX11_needs_24 (by cases hB; exact ⟨rfl, rfl⟩)
theorem cr_needs {l : Launch} {dC : Nat → ClassId} {dI : Nat → Nat → Nat} {cB cI cJ cZ cS : ClassId} {h : Nat} {a : Nat → Nat} {r : Int32} {s' : RS} {s : RS} {x1 : Int32} {x2 : Int32} {x3 : Int32} (hB : r_needs s x1 x2 x3 = some (r, s')) : CI l yX11_needs wsX11_needs ({ frames := 4, cells := 0, slots := 0, locals := 89 }) (dC, dI) (tysA cB cI cJ cZ cS) (mwS cB cI cJ cZ h a s) [.ref h, .int x1, .int x2, .int x3] (fun x u => x = r ∧ u = (mwS cB cI cJ cZ h a s')) :=
  CI_of (cc := cX11_needs) (maxL := 4) (ret := (some .int)) (by decide) rfl (Nat.le_of_ble_eq_true rfl) (br_needs _ _ _ _ hB)
theorem LX11_records_110 : Cond.fieldLink RX11 110 "GuessFerryModel" "history" "[I" ∈ wsX11_records := (List.mem_cons_of_mem _ (List.mem_append_left _ (List.mem_append_left _ (List.mem_of_getElem? (i := 1) rfl))))
theorem LX11_records_230 : Cond.fieldLink RX11 230 "GuessFerryModel" "undos" "I" ∈ wsX11_records := (List.mem_cons_of_mem _ (List.mem_append_left _ (List.mem_append_left _ (List.mem_of_getElem? (i := 0) rfl))))
theorem LX11_records_98 : Cond.fieldLink RX11 98 "GuessFerryModel" "now" "[I" ∈ wsX11_records := (List.mem_cons_of_mem _ (List.mem_append_left _ (List.mem_append_left _ (List.mem_of_getElem? (i := 2) rfl))))
theorem inX11_records_X11 : ∀ w ∈ u_ws RX11 TX11 58, w ∈ wsX11_records := fun w h => (List.mem_cons_of_mem _ (List.mem_append_right _ h))
set_option maxHeartbeats 4000000 in
set_option maxRecDepth 100000 in
theorem br_records_51 {l : Launch} {dC : Nat → ClassId} {dI : Nat → Nat → Nat} {cB cI cJ cZ cS : ClassId} {h : Nat} {a : Nat → Nat} {as : List Value} {s' : RS} {k51 : RS → Int32 → Option RS} (hk51 : ∀ (s : RS) (x1 : Int32), k51 s x1 = some s' → BlkV l yX11_records wsX11_records ({ frames := 1, cells := 0, slots := 0, locals := 21 }) cX11_records 2 none (dC, dI) (tysA cB cI cJ cZ cS) as 51 (mwS cB cI cJ cZ h a s) [(0, .ref h), (1, .int x1)] [] (fun u => u = (mwS cB cI cJ cZ h a s'))) (s : RS) (x1 : Int32) (hB : r_records_51 k51 s x1 = some s') : BlkV l yX11_records wsX11_records ({ frames := 1, cells := 0, slots := 0, locals := 21 }) cX11_records 2 none (dC, dI) (tysA cB cI cJ cZ cS) as 51 (mwS cB cI cJ cZ h a s) [(0, .ref h), (1, .int x1)] [] (fun u => u = (mwS cB cI cJ cZ h a s')) := by
  intro p e s0 m below meth c A E H locs ls hP hD hS hl
  obtain ⟨C, hr, hlocks, hA, hK, hN⟩ := id E
  obtain ⟨hx, hb, hml, hown, hts⟩ := id C
  unfold r_records_51 at hB
  refine lv_iload_n hx hb dX11_records_51 rfl (lv_at hl 1 rfl) ?_
  refine lv_bipush (v := 29) hx hb dX11_records_52 (by decide) ?_
  refine lv_icmp_ge (tgt := 83) hx hb dX11_records_54 (by decide) (fun c1 => ?_) (fun c1 => ?_)
  · have hB := if_p hB c1
    refine lv_aload_n hx hb dX11_records_83 rfl (lv_at hl 0 rfl) ?_
    refine lv_dup hx hb dX11_records_84 rfl ?_
    refine q_get (v := .int (s.v 48)) C inX11_records_X11 hK hP 0 rfl rfl 48 (by decide) rfl LX11_records_230 rfl dX11_records_85 ?_
    refine lv_iconst (v := 1) hx hb dX11_records_88 (by decide) ?_
    refine lv_iadd hx hb dX11_records_89 ?_
    obtain ⟨s2, hs3, hB⟩ := letS_inv hB
    refine q_put (ty := .int) (w2 := (mwS cB cI cJ cZ h a s2)) tyX11 tyX11_ok nmX11 C inX11_records_X11 hK hP hD hS 0 rfl rfl 48 (by decide) rfl LX11_records_230 rfl (by decide +kernel) (rfl) rfl (Nat.le_of_ble_eq_true rfl) dX11_records_90 (mwS_v48 hs3) (fun H locs hP hD hS => ?_)
    refine lv_aload_n hx hb dX11_records_93 rfl (lv_at hl 0 rfl) ?_
    obtain ⟨s4, hc, hB⟩ := bindP_inv hB
    refine q_govF (va_runV (As := []) (rest := []) C (cr_keepsRow hc _) (cwV 0 hts gX11_records_X11_keepsRow rfl rfl rfl (by decide +kernel) ⟨Nat.le_of_ble_eq_true rfl, Nat.le_of_ble_eq_true rfl⟩) (q_preV hK hP (ci := 11) (q0 := 0) rfl rfl rfl (q_preF hN hK hP hD)) rfl rfl hl.1 rfl (lv_room (Nat.le_of_ble_eq_true rfl)) dX11_records_94 ⟨Nat.le_of_ble_eq_true rfl, Nat.le_of_ble_eq_true rfl⟩) hD hS hA (fun w1 H locs hw hP hD hS => ?_)
    subst hw
    exact q_vret C hr hlocks hK hP hD hS (Nat.le_of_ble_eq_true rfl) (Nat.le_of_ble_eq_true rfl) dX11_records_97 (by cases hB; rfl)
  · have hB := if_n hB c1
    refine lv_aload_n hx hb dX11_records_57 rfl (lv_at hl 0 rfl) ?_
    refine q_get (v := .ref (a 49)) C inX11_records_X11 hK hP 0 rfl rfl 49 (by decide) rfl LX11_records_110 rfl dX11_records_58 ?_
    refine lv_bipush (v := 29) hx hb dX11_records_61 (by decide) ?_
    refine lv_aload_n hx hb dX11_records_63 rfl (lv_at hl 0 rfl) ?_
    refine q_get (v := .int (s.v 48)) C inX11_records_X11 hK hP 0 rfl rfl 48 (by decide) rfl LX11_records_230 rfl dX11_records_64 ?_
    refine lv_imul hx hb dX11_records_67 ?_
    refine lv_iload_n hx hb dX11_records_68 rfl (lv_at hl 1 rfl) ?_
    refine lv_iadd hx hb dX11_records_69 ?_
    refine lv_aload_n hx hb dX11_records_70 rfl (lv_at hl 0 rfl) ?_
    refine q_get (v := .ref (a 43)) C inX11_records_X11 hK hP 0 rfl rfl 43 (by decide) rfl LX11_records_98 rfl dX11_records_71 ?_
    refine lv_iload_n hx hb dX11_records_74 rfl (lv_at hl 1 rfl) ?_
    obtain ⟨g5, hB⟩ := guard_inv hB
    refine q_iald (x := (s.f 43 (Int32.toNatClampNeg x1))) C hK hP 27 1 rfl rfl (vpb_in g5) dX11_records_75 rfl ?_
    obtain ⟨g6, hB⟩ := guard_inv hB
    obtain ⟨s7, hs8, hB⟩ := letS_inv hB
    refine q_iast (f2 := (upd (s.f 49) (Int32.toNatClampNeg ((29 * (s.v 48)) + x1)) (s.f 43 (Int32.toNatClampNeg x1)))) (w2 := (mwS cB cI cJ cZ h a s7)) C hK hP hD hS 31 1 rfl rfl (vpb_in g6) dX11_records_76 rfl (mwS_f49 hs8) (fun H locs hP hD hS => ?_)
    refine lv_iinc (v := (x1 + 1)) (lv' := [(1, .int (x1 + 1)), (0, .ref h)]) hx hb dX11_records_77 hl (k := 1) rfl (rfl) (by decide) rfl (fun ls hl => ?_)
    refine lv_goto (tgt := 51) hx hb dX11_records_80 (by decide) ?_
    exact hk51 _ _ hB p e s0 m below meth c A E H locs ls hP hD hS (lv_sub hl [1, 0] rfl)
theorem br_records_51L {l : Launch} {dC : Nat → ClassId} {dI : Nat → Nat → Nat} {cB cI cJ cZ cS : ClassId} {h : Nat} {a : Nat → Nat} {as : List Value} {s' : RS} : ∀ (n : Nat) (s : RS) (x1 : Int32), r_records_51L n s x1 = some s' → BlkV l yX11_records wsX11_records ({ frames := 1, cells := 0, slots := 0, locals := 21 }) cX11_records 2 none (dC, dI) (tysA cB cI cJ cZ cS) as 51 (mwS cB cI cJ cZ h a s) [(0, .ref h), (1, .int x1)] [] (fun u => u = (mwS cB cI cJ cZ h a s')) := by
  intro n
  induction n with
  | zero => intro s x1 hB; exact none_ne hB
  | succ n ih => intro s x1 hB; exact br_records_51 ih _ _ hB
set_option maxHeartbeats 4000000 in
set_option maxRecDepth 100000 in
theorem br_records_49 {l : Launch} {dC : Nat → ClassId} {dI : Nat → Nat → Nat} {cB cI cJ cZ cS : ClassId} {h : Nat} {a : Nat → Nat} {as : List Value} {s' : RS} (s : RS) (hB : r_records_49 s = some s') : BlkV l yX11_records wsX11_records ({ frames := 1, cells := 0, slots := 0, locals := 21 }) cX11_records 2 none (dC, dI) (tysA cB cI cJ cZ cS) as 49 (mwS cB cI cJ cZ h a s) [(0, .ref h)] [] (fun u => u = (mwS cB cI cJ cZ h a s')) := by
  intro p e s0 m below meth c A E H locs ls hP hD hS hl
  obtain ⟨C, hr, hlocks, hA, hK, hN⟩ := id E
  obtain ⟨hx, hb, hml, hown, hts⟩ := id C
  unfold r_records_49 at hB
  refine lv_iconst (v := 0) hx hb dX11_records_49 (by decide) ?_
  refine lv_istore_n (lv' := [(1, .int 0), (0, .ref h)]) hx hb dX11_records_50 rfl hl (by decide) rfl (fun ls hl => ?_)
  exact br_records_51L fu _ _ hB p e s0 m below meth c A E H locs ls hP hD hS (lv_sub hl [1, 0] rfl)
set_option maxHeartbeats 4000000 in
set_option maxRecDepth 100000 in
theorem br_records_11 {l : Launch} {dC : Nat → ClassId} {dI : Nat → Nat → Nat} {cB cI cJ cZ cS : ClassId} {h : Nat} {a : Nat → Nat} {as : List Value} {s' : RS} {k11 : RS → Int32 → Option RS} (hk11 : ∀ (s : RS) (x1 : Int32), k11 s x1 = some s' → BlkV l yX11_records wsX11_records ({ frames := 1, cells := 0, slots := 0, locals := 21 }) cX11_records 2 none (dC, dI) (tysA cB cI cJ cZ cS) as 11 (mwS cB cI cJ cZ h a s) [(0, .ref h), (1, .int x1)] [] (fun u => u = (mwS cB cI cJ cZ h a s'))) (s : RS) (x1 : Int32) (hB : r_records_11 k11 s x1 = some s') : BlkV l yX11_records wsX11_records ({ frames := 1, cells := 0, slots := 0, locals := 21 }) cX11_records 2 none (dC, dI) (tysA cB cI cJ cZ cS) as 11 (mwS cB cI cJ cZ h a s) [(0, .ref h), (1, .int x1)] [] (fun u => u = (mwS cB cI cJ cZ h a s')) := by
  intro p e s0 m below meth c A E H locs ls hP hD hS hl
  obtain ⟨C, hr, hlocks, hA, hK, hN⟩ := id E
  obtain ⟨hx, hb, hml, hown, hts⟩ := id C
  unfold r_records_11 at hB
  refine lv_iload_n hx hb dX11_records_11 rfl (lv_at hl 1 rfl) ?_
  refine lv_sipush (v := 1131) hx hb dX11_records_12 (by decide) ?_
  refine lv_icmp_ge (tgt := 39) hx hb dX11_records_15 (by decide) (fun c1 => ?_) (fun c1 => ?_)
  · have hB := if_p hB c1
    refine lv_aload_n hx hb dX11_records_39 rfl (lv_at hl 0 rfl) ?_
    refine lv_dup hx hb dX11_records_40 rfl ?_
    refine q_get (v := .int (s.v 48)) C inX11_records_X11 hK hP 0 rfl rfl 48 (by decide) rfl LX11_records_230 rfl dX11_records_41 ?_
    refine lv_iconst (v := 1) hx hb dX11_records_44 (by decide) ?_
    refine lv_isub hx hb dX11_records_45 ?_
    obtain ⟨s2, hs3, hB⟩ := letS_inv hB
    refine q_put (ty := .int) (w2 := (mwS cB cI cJ cZ h a s2)) tyX11 tyX11_ok nmX11 C inX11_records_X11 hK hP hD hS 0 rfl rfl 48 (by decide) rfl LX11_records_230 rfl (by decide +kernel) (rfl) rfl (Nat.le_of_ble_eq_true rfl) dX11_records_46 (mwS_v48 hs3) (fun H locs hP hD hS => ?_)
    exact br_records_49 _ hB p e s0 m below meth c A E H locs ls hP hD hS (lv_sub hl [0] rfl)
  · have hB := if_n hB c1
    refine lv_aload_n hx hb dX11_records_18 rfl (lv_at hl 0 rfl) ?_
    refine q_get (v := .ref (a 49)) C inX11_records_X11 hK hP 0 rfl rfl 49 (by decide) rfl LX11_records_110 rfl dX11_records_19 ?_
    refine lv_iload_n hx hb dX11_records_22 rfl (lv_at hl 1 rfl) ?_
    refine lv_aload_n hx hb dX11_records_23 rfl (lv_at hl 0 rfl) ?_
    refine q_get (v := .ref (a 49)) C inX11_records_X11 hK hP 0 rfl rfl 49 (by decide) rfl LX11_records_110 rfl dX11_records_24 ?_
    refine lv_iload_n hx hb dX11_records_27 rfl (lv_at hl 1 rfl) ?_
    refine lv_bipush (v := 29) hx hb dX11_records_28 (by decide) ?_
    refine lv_iadd hx hb dX11_records_30 ?_
    obtain ⟨g4, hB⟩ := guard_inv hB
    refine q_iald (x := (s.f 49 (Int32.toNatClampNeg (x1 + 29)))) C hK hP 31 1 rfl rfl (vpb_in g4) dX11_records_31 rfl ?_
    obtain ⟨g5, hB⟩ := guard_inv hB
    obtain ⟨s6, hs7, hB⟩ := letS_inv hB
    refine q_iast (f2 := (upd (s.f 49) (Int32.toNatClampNeg x1) (s.f 49 (Int32.toNatClampNeg (x1 + 29))))) (w2 := (mwS cB cI cJ cZ h a s6)) C hK hP hD hS 31 1 rfl rfl (vpb_in g5) dX11_records_32 rfl (mwS_f49 hs7) (fun H locs hP hD hS => ?_)
    refine lv_iinc (v := (x1 + 1)) (lv' := [(1, .int (x1 + 1)), (0, .ref h)]) hx hb dX11_records_33 hl (k := 1) rfl (rfl) (by decide) rfl (fun ls hl => ?_)
    refine lv_goto (tgt := 11) hx hb dX11_records_36 (by decide) ?_
    exact hk11 _ _ hB p e s0 m below meth c A E H locs ls hP hD hS (lv_sub hl [1, 0] rfl)
theorem br_records_11L {l : Launch} {dC : Nat → ClassId} {dI : Nat → Nat → Nat} {cB cI cJ cZ cS : ClassId} {h : Nat} {a : Nat → Nat} {as : List Value} {s' : RS} : ∀ (n : Nat) (s : RS) (x1 : Int32), r_records_11L n s x1 = some s' → BlkV l yX11_records wsX11_records ({ frames := 1, cells := 0, slots := 0, locals := 21 }) cX11_records 2 none (dC, dI) (tysA cB cI cJ cZ cS) as 11 (mwS cB cI cJ cZ h a s) [(0, .ref h), (1, .int x1)] [] (fun u => u = (mwS cB cI cJ cZ h a s')) := by
  intro n
  induction n with
  | zero => intro s x1 hB; exact none_ne hB
  | succ n ih => intro s x1 hB; exact br_records_11 ih _ _ hB
set_option maxHeartbeats 4000000 in
set_option maxRecDepth 100000 in
theorem br_records {l : Launch} {dC : Nat → ClassId} {dI : Nat → Nat → Nat} {cB cI cJ cZ cS : ClassId} {h : Nat} {a : Nat → Nat} {as : List Value} {s' : RS} (s : RS) (hB : r_records s = some s') : BlkV l yX11_records wsX11_records ({ frames := 1, cells := 0, slots := 0, locals := 21 }) cX11_records 2 none (dC, dI) (tysA cB cI cJ cZ cS) as 0 (mwS cB cI cJ cZ h a s) [(0, .ref h)] [] (fun u => u = (mwS cB cI cJ cZ h a s')) := by
  intro p e s0 m below meth c A E H locs ls hP hD hS hl
  obtain ⟨C, hr, hlocks, hA, hK, hN⟩ := id E
  obtain ⟨hx, hb, hml, hown, hts⟩ := id C
  unfold r_records at hB
  refine lv_aload_n hx hb dX11_records_0 rfl (lv_at hl 0 rfl) ?_
  refine q_get (v := .int (s.v 48)) C inX11_records_X11 hK hP 0 rfl rfl 48 (by decide) rfl LX11_records_230 rfl dX11_records_1 ?_
  refine lv_bipush (v := 40) hx hb dX11_records_4 (by decide) ?_
  refine lv_icmp_ne (tgt := 49) hx hb dX11_records_6 (by decide) (fun c1 => ?_) (fun c1 => ?_)
  · have hB := if_n hB c1
    exact br_records_49 _ hB p e s0 m below meth c A E H locs ls hP hD hS (lv_sub hl [0] rfl)
  · have hB := if_p hB c1
    refine lv_iconst (v := 0) hx hb dX11_records_9 (by decide) ?_
    refine lv_istore_n (lv' := [(1, .int 0), (0, .ref h)]) hx hb dX11_records_10 rfl hl (by decide) rfl (fun ls hl => ?_)
    exact br_records_11L fu _ _ hB p e s0 m below meth c A E H locs ls hP hD hS (lv_sub hl [1, 0] rfl)
theorem cr_records {l : Launch} {dC : Nat → ClassId} {dI : Nat → Nat → Nat} {cB cI cJ cZ cS : ClassId} {h : Nat} {a : Nat → Nat} {s' : RS} {s : RS} (hB : r_records s = some s') : CV l yX11_records wsX11_records ({ frames := 1, cells := 0, slots := 0, locals := 21 }) (dC, dI) (tysA cB cI cJ cZ cS) (mwS cB cI cJ cZ h a s) [.ref h] (fun u => u = (mwS cB cI cJ cZ h a s')) :=
  CV_of (cc := cX11_records) (maxL := 2) (ret := none) (by decide) rfl (Nat.le_of_ble_eq_true rfl) (br_records _ hB)
theorem LX11_isHere_98 : Cond.fieldLink RX11 98 "GuessFerryModel" "now" "[I" ∈ wsX11_isHere := (List.mem_cons_of_mem _ (List.mem_append_left _ (List.mem_append_left _ (List.mem_of_getElem? (i := 0) rfl))))
theorem inX11_isHere_X11 : ∀ w ∈ u_ws RX11 TX11 58, w ∈ wsX11_isHere := fun w h => (List.mem_cons_of_mem _ (List.mem_append_right _ h))
set_option maxHeartbeats 4000000 in
set_option maxRecDepth 100000 in
theorem br_isHere {l : Launch} {dC : Nat → ClassId} {dI : Nat → Nat → Nat} {cB cI cJ cZ cS : ClassId} {h : Nat} {a : Nat → Nat} {as : List Value} {r : Int32} {s' : RS} (s : RS) (x1 : Int32) (hB : r_isHere s x1 = some (r, s')) : BlkI l yX11_isHere wsX11_isHere ({ frames := 2, cells := 0, slots := 0, locals := 43 }) cX11_isHere 2 (some .boolean) (dC, dI) (tysA cB cI cJ cZ cS) as 0 (mwS cB cI cJ cZ h a s) [(0, .ref h), (1, .int x1)] [] (fun x u => x = r ∧ u = (mwS cB cI cJ cZ h a s')) := by
  intro p e s0 m below meth c A E H locs ls hP hD hS hl
  obtain ⟨C, hr, hlocks, hA, hK, hN⟩ := id E
  obtain ⟨hx, hb, hml, hown, hts⟩ := id C
  unfold r_isHere at hB
  refine lv_aload_n hx hb dX11_isHere_0 rfl (lv_at hl 0 rfl) ?_
  refine lv_iload_n hx hb dX11_isHere_1 rfl (lv_at hl 1 rfl) ?_
  obtain ⟨q_, s1, hc, hB⟩ := bindI_inv hB
  refine q_goiF (va_runV (As := [.int x1]) (rest := []) C (cr_isParty hc _) (cwV 1 hts gX11_isHere_X11_isParty rfl rfl rfl (by decide +kernel) ⟨Nat.le_of_ble_eq_true rfl, Nat.le_of_ble_eq_true rfl⟩) (q_preV hK hP (ci := 11) (q0 := 0) rfl rfl rfl (q_preF hN hK hP hD)) rfl rfl hl.1 rfl (lv_room (Nat.le_of_ble_eq_true rfl)) dX11_isHere_2 ⟨Nat.le_of_ble_eq_true rfl, Nat.le_of_ble_eq_true rfl⟩) hD hS hA (fun r2 w1 H locs hw hP hD hS => ?_)
  obtain ⟨hq_, hw⟩ := hw; subst hw; subst hq_
  refine lv_if_eq (tgt := 24) hx hb dX11_isHere_5 (by decide) (fun c3 => ?_) (fun c3 => ?_)
  · have hB := if_p hB c3
    refine lv_iconst (v := 0) hx hb dX11_isHere_24 (by decide) ?_
    exact q_zret C hr hlocks (Or.inl rfl) hK hP hD hS (Nat.le_of_ble_eq_true rfl) (Nat.le_of_ble_eq_true rfl) dX11_isHere_25 (by cases hB; exact ⟨rfl, rfl⟩)
  · have hB := if_n hB c3
    refine lv_aload_n hx hb dX11_isHere_8 rfl (lv_at hl 0 rfl) ?_
    refine q_get (v := .ref (a 43)) C inX11_isHere_X11 hK hP 0 rfl rfl 43 (by decide) rfl LX11_isHere_98 rfl dX11_isHere_9 ?_
    refine lv_bipush (v := 15) hx hb dX11_isHere_12 (by decide) ?_
    refine lv_iload_n hx hb dX11_isHere_14 rfl (lv_at hl 1 rfl) ?_
    refine lv_iadd hx hb dX11_isHere_15 ?_
    obtain ⟨g4, hB⟩ := guard_inv hB
    refine q_iald (x := (s1.f 43 (Int32.toNatClampNeg (15 + x1)))) C hK hP 27 1 rfl rfl (vpb_in g4) dX11_isHere_16 rfl ?_
    refine lv_if_ne (tgt := 24) hx hb dX11_isHere_17 (by decide) (fun c5 => ?_) (fun c5 => ?_)
    · have hB := if_n hB c5
      refine lv_iconst (v := 0) hx hb dX11_isHere_24 (by decide) ?_
      exact q_zret C hr hlocks (Or.inl rfl) hK hP hD hS (Nat.le_of_ble_eq_true rfl) (Nat.le_of_ble_eq_true rfl) dX11_isHere_25 (by cases hB; exact ⟨rfl, rfl⟩)
    · have hB := if_p hB c5
      refine lv_iconst (v := 1) hx hb dX11_isHere_20 (by decide) ?_
      refine lv_goto (tgt := 25) hx hb dX11_isHere_21 (by decide) ?_
      exact q_zret C hr hlocks (Or.inr rfl) hK hP hD hS (Nat.le_of_ble_eq_true rfl) (Nat.le_of_ble_eq_true rfl) dX11_isHere_25 (by cases hB; exact ⟨rfl, rfl⟩)
theorem cr_isHere {l : Launch} {dC : Nat → ClassId} {dI : Nat → Nat → Nat} {cB cI cJ cZ cS : ClassId} {h : Nat} {a : Nat → Nat} {r : Int32} {s' : RS} {s : RS} {x1 : Int32} (hB : r_isHere s x1 = some (r, s')) : CI l yX11_isHere wsX11_isHere ({ frames := 2, cells := 0, slots := 0, locals := 43 }) (dC, dI) (tysA cB cI cJ cZ cS) (mwS cB cI cJ cZ h a s) [.ref h, .int x1] (fun x u => x = r ∧ u = (mwS cB cI cJ cZ h a s')) :=
  CI_of (cc := cX11_isHere) (maxL := 2) (ret := (some .boolean)) (by decide) rfl (Nat.le_of_ble_eq_true rfl) (br_isHere _ _ hB)
theorem LX11_go_215 : Cond.fieldLink RX11 215 "GuessFerryModel" "live" "I" ∈ wsX11_go := (List.mem_cons_of_mem _ (List.mem_append_left _ (List.mem_append_left _ (List.mem_of_getElem? (i := 1) rfl))))
theorem LX11_go_40 : Cond.fieldLink RX11 40 "GuessFerryModel" "waves" "[I" ∈ wsX11_go := (List.mem_cons_of_mem _ (List.mem_append_left _ (List.mem_append_left _ (List.mem_of_getElem? (i := 0) rfl))))
theorem inX11_go_X11 : ∀ w ∈ u_ws RX11 TX11 58, w ∈ wsX11_go := fun w h => (List.mem_cons_of_mem _ (List.mem_append_right _ h))
set_option maxHeartbeats 4000000 in
set_option maxRecDepth 100000 in
theorem br_go {l : Launch} {dC : Nat → ClassId} {dI : Nat → Nat → Nat} {cB cI cJ cZ cS : ClassId} {h : Nat} {a : Nat → Nat} {as : List Value} {r : Int32} {s' : RS} (s : RS) (x1 : Int32) (x2 : Int32) (hB : r_go s x1 x2 = some (r, s')) : BlkI l yX11_go wsX11_go ({ frames := 7, cells := 0, slots := 0, locals := 161 }) cX11_go 4 (some .int) (dC, dI) (tysA cB cI cJ cZ cS) as 0 (mwS cB cI cJ cZ h a s) [(0, .ref h), (1, .int x1), (2, .int x2)] [] (fun x u => x = r ∧ u = (mwS cB cI cJ cZ h a s')) := by
  intro p e s0 m below meth c A E H locs ls hP hD hS hl
  obtain ⟨C, hr, hlocks, hA, hK, hN⟩ := id E
  obtain ⟨hx, hb, hml, hown, hts⟩ := id C
  unfold r_go at hB
  refine lv_aload_n hx hb dX11_go_0 rfl (lv_at hl 0 rfl) ?_
  refine lv_iload_n hx hb dX11_go_1 rfl (lv_at hl 1 rfl) ?_
  obtain ⟨q_, s1, hc, hB⟩ := bindI_inv hB
  refine q_goiF (va_runV (As := [.int x1]) (rest := []) C (cr_isHere hc _) (cwV 1 hts gX11_go_X11_isHere rfl rfl rfl (by decide +kernel) ⟨Nat.le_of_ble_eq_true rfl, Nat.le_of_ble_eq_true rfl⟩) (q_preV hK hP (ci := 11) (q0 := 0) rfl rfl rfl (q_preF hN hK hP hD)) rfl rfl hl.1 rfl (lv_room (Nat.le_of_ble_eq_true rfl)) dX11_go_2 ⟨Nat.le_of_ble_eq_true rfl, Nat.le_of_ble_eq_true rfl⟩) hD hS hA (fun r2 w1 H locs hw hP hD hS => ?_)
  obtain ⟨hq_, hw⟩ := hw; subst hw; subst hq_
  refine lv_if_eq (tgt := 28) hx hb dX11_go_5 (by decide) (fun c3 => ?_) (fun c3 => ?_)
  · have hB := if_p hB c3
    refine lv_iconst (v := (-1)) hx hb dX11_go_28 (by decide) ?_
    exact q_iret C hr hlocks hK hP hD hS (Nat.le_of_ble_eq_true rfl) (Nat.le_of_ble_eq_true rfl) dX11_go_29 (by cases hB; exact ⟨rfl, rfl⟩)
  · have hB := if_n hB c3
    refine lv_aload_n hx hb dX11_go_8 rfl (lv_at hl 0 rfl) ?_
    refine q_get (v := .ref (a 20)) C inX11_go_X11 hK hP 0 rfl rfl 20 (by decide) rfl LX11_go_40 rfl dX11_go_9 ?_
    refine lv_aload_n hx hb dX11_go_12 rfl (lv_at hl 0 rfl) ?_
    refine q_get (v := .int (s1.v 18)) C inX11_go_X11 hK hP 0 rfl rfl 18 (by decide) rfl LX11_go_215 rfl dX11_go_13 ?_
    obtain ⟨g4, hB⟩ := guard_inv hB
    refine q_iald (x := (s1.f 20 (Int32.toNatClampNeg (s1.v 18)))) C hK hP 8 1 rfl rfl (vpb_in g4) dX11_go_16 rfl ?_
    refine lv_if_eq (tgt := 28) hx hb dX11_go_17 (by decide) (fun c5 => ?_) (fun c5 => ?_)
    · have hB := if_p hB c5
      refine lv_iconst (v := (-1)) hx hb dX11_go_28 (by decide) ?_
      exact q_iret C hr hlocks hK hP hD hS (Nat.le_of_ble_eq_true rfl) (Nat.le_of_ble_eq_true rfl) dX11_go_29 (by cases hB; exact ⟨rfl, rfl⟩)
    · have hB := if_n hB c5
      refine lv_aload_n hx hb dX11_go_20 rfl (lv_at hl 0 rfl) ?_
      refine lv_iload_n hx hb dX11_go_21 rfl (lv_at hl 2 rfl) ?_
      obtain ⟨q_, s6, hc, hB⟩ := bindI_inv hB
      refine q_goiF (va_runV (As := [.int x2]) (rest := []) C (cr_isGuess hc _) (cwV 1 hts gX11_go_X11_isGuess rfl rfl rfl (by decide +kernel) ⟨Nat.le_of_ble_eq_true rfl, Nat.le_of_ble_eq_true rfl⟩) (q_preV hK hP (ci := 11) (q0 := 0) rfl rfl rfl (q_preF hN hK hP hD)) rfl rfl hl.1 rfl (lv_room (Nat.le_of_ble_eq_true rfl)) dX11_go_22 ⟨Nat.le_of_ble_eq_true rfl, Nat.le_of_ble_eq_true rfl⟩) hD hS hA (fun r7 w1 H locs hw hP hD hS => ?_)
      obtain ⟨hq_, hw⟩ := hw; subst hw; subst hq_
      refine lv_if_ne (tgt := 30) hx hb dX11_go_25 (by decide) (fun c8 => ?_) (fun c8 => ?_)
      · have hB := if_n hB c8
        refine lv_aload_n hx hb dX11_go_30 rfl (lv_at hl 0 rfl) ?_
        obtain ⟨s9, hc, hB⟩ := bindP_inv hB
        refine q_govF (va_runV (As := []) (rest := []) C (cr_copies hc _) (cwV 0 hts gX11_go_X11_copies rfl rfl rfl (by decide +kernel) ⟨Nat.le_of_ble_eq_true rfl, Nat.le_of_ble_eq_true rfl⟩) (q_preV hK hP (ci := 11) (q0 := 0) rfl rfl rfl (q_preF hN hK hP hD)) rfl rfl hl.1 rfl (lv_room (Nat.le_of_ble_eq_true rfl)) dX11_go_31 ⟨Nat.le_of_ble_eq_true rfl, Nat.le_of_ble_eq_true rfl⟩) hD hS hA (fun w1 H locs hw hP hD hS => ?_)
        subst hw
        refine lv_aload_n hx hb dX11_go_34 rfl (lv_at hl 0 rfl) ?_
        refine lv_iload_n hx hb dX11_go_35 rfl (lv_at hl 1 rfl) ?_
        refine lv_iload_n hx hb dX11_go_36 rfl (lv_at hl 2 rfl) ?_
        refine lv_aload_n hx hb dX11_go_37 rfl (lv_at hl 0 rfl) ?_
        obtain ⟨q_, s10, hc, hB⟩ := bindI_inv hB
        refine q_goiF (va_runV (As := []) (rest := [.int x2, .int x1, .ref h]) C (cr_thereNumber hc _) (cwV 0 hts gX11_go_X11_thereNumber rfl rfl rfl (by decide +kernel) ⟨Nat.le_of_ble_eq_true rfl, Nat.le_of_ble_eq_true rfl⟩) (q_preV hK hP (ci := 11) (q0 := 0) rfl rfl rfl (q_preF hN hK hP hD)) rfl rfl hl.1 rfl (lv_room (Nat.le_of_ble_eq_true rfl)) dX11_go_38 ⟨Nat.le_of_ble_eq_true rfl, Nat.le_of_ble_eq_true rfl⟩) hD hS hA (fun r11 w1 H locs hw hP hD hS => ?_)
        obtain ⟨hq_, hw⟩ := hw; subst hw; subst hq_
        obtain ⟨q_, s12, hc, hB⟩ := bindI_inv hB
        refine q_goiF (va_runV (As := [.int x1, .int x2, .int r11]) (rest := []) C (cr_goesBy hc _) (cwV 3 hts gX11_go_X11_goesBy rfl rfl rfl (by decide +kernel) ⟨Nat.le_of_ble_eq_true rfl, Nat.le_of_ble_eq_true rfl⟩) (q_preV hK hP (ci := 11) (q0 := 0) rfl rfl rfl (q_preF hN hK hP hD)) rfl rfl hl.1 rfl (lv_room (Nat.le_of_ble_eq_true rfl)) dX11_go_41 ⟨Nat.le_of_ble_eq_true rfl, Nat.le_of_ble_eq_true rfl⟩) hD hS hA (fun r13 w1 H locs hw hP hD hS => ?_)
        obtain ⟨hq_, hw⟩ := hw; subst hw; subst hq_
        refine lv_istore_n (lv' := [(3, .int r13), (0, .ref h), (1, .int x1), (2, .int x2)]) hx hb dX11_go_44 rfl hl (by decide) rfl (fun ls hl => ?_)
        refine lv_aload_n hx hb dX11_go_45 rfl (lv_at hl 1 rfl) ?_
        obtain ⟨s14, hc, hB⟩ := bindP_inv hB
        refine q_govF (va_runV (As := []) (rest := []) C (cr_records hc _) (cwV 0 hts gX11_go_X11_records rfl rfl rfl (by decide +kernel) ⟨Nat.le_of_ble_eq_true rfl, Nat.le_of_ble_eq_true rfl⟩) (q_preV hK hP (ci := 11) (q0 := 0) rfl rfl rfl (q_preF hN hK hP hD)) rfl rfl hl.1 rfl (lv_room (Nat.le_of_ble_eq_true rfl)) dX11_go_46 ⟨Nat.le_of_ble_eq_true rfl, Nat.le_of_ble_eq_true rfl⟩) hD hS hA (fun w1 H locs hw hP hD hS => ?_)
        subst hw
        refine lv_iload_n hx hb dX11_go_49 rfl (lv_at hl 0 rfl) ?_
        exact q_iret C hr hlocks hK hP hD hS (Nat.le_of_ble_eq_true rfl) (Nat.le_of_ble_eq_true rfl) dX11_go_50 (by cases hB; exact ⟨rfl, rfl⟩)
      · have hB := if_p hB c8
        refine lv_iconst (v := (-1)) hx hb dX11_go_28 (by decide) ?_
        exact q_iret C hr hlocks hK hP hD hS (Nat.le_of_ble_eq_true rfl) (Nat.le_of_ble_eq_true rfl) dX11_go_29 (by cases hB; exact ⟨rfl, rfl⟩)
theorem cr_go {l : Launch} {dC : Nat → ClassId} {dI : Nat → Nat → Nat} {cB cI cJ cZ cS : ClassId} {h : Nat} {a : Nat → Nat} {r : Int32} {s' : RS} {s : RS} {x1 : Int32} {x2 : Int32} (hB : r_go s x1 x2 = some (r, s')) : CI l yX11_go wsX11_go ({ frames := 7, cells := 0, slots := 0, locals := 161 }) (dC, dI) (tysA cB cI cJ cZ cS) (mwS cB cI cJ cZ h a s) [.ref h, .int x1, .int x2] (fun x u => x = r ∧ u = (mwS cB cI cJ cZ h a s')) :=
  CI_of (cc := cX11_go) (maxL := 4) (ret := (some .int)) (by decide) rfl (Nat.le_of_ble_eq_true rfl) (br_go _ _ _ hB)
theorem LX11_buoy_101 : Cond.fieldLink RX11 101 "GuessFerryModel" "row" "[I" ∈ wsX11_buoy := (List.mem_cons_of_mem _ (List.mem_append_left _ (List.mem_append_left _ (List.mem_of_getElem? (i := 1) rfl))))
theorem LX11_buoy_98 : Cond.fieldLink RX11 98 "GuessFerryModel" "now" "[I" ∈ wsX11_buoy := (List.mem_cons_of_mem _ (List.mem_append_left _ (List.mem_append_left _ (List.mem_of_getElem? (i := 0) rfl))))
theorem inX11_buoy_X11 : ∀ w ∈ u_ws RX11 TX11 58, w ∈ wsX11_buoy := fun w h => (List.mem_cons_of_mem _ (List.mem_append_right _ h))
set_option maxHeartbeats 4000000 in
set_option maxRecDepth 100000 in
theorem br_buoy_34 {l : Launch} {dC : Nat → ClassId} {dI : Nat → Nat → Nat} {cB cI cJ cZ cS : ClassId} {h : Nat} {a : Nat → Nat} {as : List Value} {r : Int32} {s' : RS} (s : RS) (x1 : Int32) (x2 : Int32) (x3 : Int32) (t0 : Int32) (hB : r_buoy_34 s x1 x2 x3 t0 = some (r, s')) : BlkI l yX11_buoy wsX11_buoy ({ frames := 2, cells := 0, slots := 0, locals := 43 }) cX11_buoy 4 (some .boolean) (dC, dI) (tysA cB cI cJ cZ cS) as 34 (mwS cB cI cJ cZ h a s) [(0, .ref h), (1, .int x1), (2, .int x2), (3, .int x3)] [.int t0] (fun x u => x = r ∧ u = (mwS cB cI cJ cZ h a s')) := by
  intro p e s0 m below meth c A E H locs ls hP hD hS hl
  obtain ⟨C, hr, hlocks, hA, hK, hN⟩ := id E
  obtain ⟨hx, hb, hml, hown, hts⟩ := id C
  unfold r_buoy_34 at hB
  refine lv_iload_n hx hb dX11_buoy_34 rfl (lv_at hl 3 rfl) ?_
  refine lv_icmp_ne (tgt := 40) hx hb dX11_buoy_35 (by decide) (fun c1 => ?_) (fun c1 => ?_)
  · have hB := if_n hB c1
    refine lv_aload_n hx hb dX11_buoy_40 rfl (lv_at hl 0 rfl) ?_
    obtain ⟨s2, hc, hB⟩ := bindP_inv hB
    refine q_govF (va_runV (As := []) (rest := []) C (cr_copies hc _) (cwV 0 hts gX11_buoy_X11_copies rfl rfl rfl (by decide +kernel) ⟨Nat.le_of_ble_eq_true rfl, Nat.le_of_ble_eq_true rfl⟩) (q_preV hK hP (ci := 11) (q0 := 0) rfl rfl rfl (q_preF hN hK hP hD)) rfl rfl hl.1 rfl (lv_room (Nat.le_of_ble_eq_true rfl)) dX11_buoy_41 ⟨Nat.le_of_ble_eq_true rfl, Nat.le_of_ble_eq_true rfl⟩) hD hS hA (fun w1 H locs hw hP hD hS => ?_)
    subst hw
    refine lv_aload_n hx hb dX11_buoy_44 rfl (lv_at hl 0 rfl) ?_
    refine q_get (v := .ref (a 44)) C inX11_buoy_X11 hK hP 0 rfl rfl 44 (by decide) rfl LX11_buoy_101 rfl dX11_buoy_45 ?_
    refine lv_iload_n hx hb dX11_buoy_48 rfl (lv_at hl 1 rfl) ?_
    refine lv_dup2_11 hx hb dX11_buoy_49 rfl rfl ?_
    obtain ⟨g3, hB⟩ := guard_inv hB
    refine q_iald (x := (s2.f 44 (Int32.toNatClampNeg x1))) C hK hP 28 1 rfl rfl (vpb_in g3) dX11_buoy_50 rfl ?_
    refine lv_iconst (v := 1) hx hb dX11_buoy_51 (by decide) ?_
    refine lv_iload_n hx hb dX11_buoy_52 rfl (lv_at hl 2 rfl) ?_
    refine lv_ishl hx hb dX11_buoy_53 ?_
    refine lv_ixor hx hb dX11_buoy_54 ?_
    obtain ⟨g4, hB⟩ := guard_inv hB
    obtain ⟨s5, hs6, hB⟩ := letS_inv hB
    refine q_iast (f2 := (upd (s2.f 44) (Int32.toNatClampNeg x1) ((s2.f 44 (Int32.toNatClampNeg x1)) ^^^ (1 <<< (x2 &&& 31))))) (w2 := (mwS cB cI cJ cZ h a s5)) C hK hP hD hS 28 1 rfl rfl (vpb_in g4) dX11_buoy_55 rfl (mwS_f44 hs6) (fun H locs hP hD hS => ?_)
    refine lv_aload_n hx hb dX11_buoy_56 rfl (lv_at hl 0 rfl) ?_
    obtain ⟨s7, hc, hB⟩ := bindP_inv hB
    refine q_govF (va_runV (As := []) (rest := []) C (cr_records hc _) (cwV 0 hts gX11_buoy_X11_records rfl rfl rfl (by decide +kernel) ⟨Nat.le_of_ble_eq_true rfl, Nat.le_of_ble_eq_true rfl⟩) (q_preV hK hP (ci := 11) (q0 := 0) rfl rfl rfl (q_preF hN hK hP hD)) rfl rfl hl.1 rfl (lv_room (Nat.le_of_ble_eq_true rfl)) dX11_buoy_57 ⟨Nat.le_of_ble_eq_true rfl, Nat.le_of_ble_eq_true rfl⟩) hD hS hA (fun w1 H locs hw hP hD hS => ?_)
    subst hw
    refine lv_iconst (v := 1) hx hb dX11_buoy_60 (by decide) ?_
    exact q_zret C hr hlocks (Or.inr rfl) hK hP hD hS (Nat.le_of_ble_eq_true rfl) (Nat.le_of_ble_eq_true rfl) dX11_buoy_61 (by cases hB; exact ⟨rfl, rfl⟩)
  · have hB := if_p hB c1
    refine lv_iconst (v := 0) hx hb dX11_buoy_38 (by decide) ?_
    exact q_zret C hr hlocks (Or.inl rfl) hK hP hD hS (Nat.le_of_ble_eq_true rfl) (Nat.le_of_ble_eq_true rfl) dX11_buoy_39 (by cases hB; exact ⟨rfl, rfl⟩)
set_option maxHeartbeats 4000000 in
set_option maxRecDepth 100000 in
theorem br_buoy {l : Launch} {dC : Nat → ClassId} {dI : Nat → Nat → Nat} {cB cI cJ cZ cS : ClassId} {h : Nat} {a : Nat → Nat} {as : List Value} {r : Int32} {s' : RS} (s : RS) (x1 : Int32) (x2 : Int32) (x3 : Int32) (hB : r_buoy s x1 x2 x3 = some (r, s')) : BlkI l yX11_buoy wsX11_buoy ({ frames := 2, cells := 0, slots := 0, locals := 43 }) cX11_buoy 4 (some .boolean) (dC, dI) (tysA cB cI cJ cZ cS) as 0 (mwS cB cI cJ cZ h a s) [(0, .ref h), (1, .int x1), (2, .int x2), (3, .int x3)] [] (fun x u => x = r ∧ u = (mwS cB cI cJ cZ h a s')) := by
  intro p e s0 m below meth c A E H locs ls hP hD hS hl
  obtain ⟨C, hr, hlocks, hA, hK, hN⟩ := id E
  obtain ⟨hx, hb, hml, hown, hts⟩ := id C
  unfold r_buoy at hB
  refine lv_aload_n hx hb dX11_buoy_0 rfl (lv_at hl 0 rfl) ?_
  refine lv_iload_n hx hb dX11_buoy_1 rfl (lv_at hl 1 rfl) ?_
  obtain ⟨q_, s1, hc, hB⟩ := bindI_inv hB
  refine q_goiF (va_runV (As := [.int x1]) (rest := []) C (cr_isWave hc _) (cwV 1 hts gX11_buoy_X11_isWave rfl rfl rfl (by decide +kernel) ⟨Nat.le_of_ble_eq_true rfl, Nat.le_of_ble_eq_true rfl⟩) (q_preV hK hP (ci := 11) (q0 := 0) rfl rfl rfl (q_preF hN hK hP hD)) rfl rfl hl.1 rfl (lv_room (Nat.le_of_ble_eq_true rfl)) dX11_buoy_2 ⟨Nat.le_of_ble_eq_true rfl, Nat.le_of_ble_eq_true rfl⟩) hD hS hA (fun r2 w1 H locs hw hP hD hS => ?_)
  obtain ⟨hq_, hw⟩ := hw; subst hw; subst hq_
  refine lv_if_eq (tgt := 38) hx hb dX11_buoy_5 (by decide) (fun c3 => ?_) (fun c3 => ?_)
  · have hB := if_p hB c3
    refine lv_iconst (v := 0) hx hb dX11_buoy_38 (by decide) ?_
    exact q_zret C hr hlocks (Or.inl rfl) hK hP hD hS (Nat.le_of_ble_eq_true rfl) (Nat.le_of_ble_eq_true rfl) dX11_buoy_39 (by cases hB; exact ⟨rfl, rfl⟩)
  · have hB := if_n hB c3
    refine lv_iload_n hx hb dX11_buoy_8 rfl (lv_at hl 2 rfl) ?_
    obtain ⟨q_, hc, hB⟩ := bindP_inv hB
    refine q_goi0 (va_runS (As := [.int x2]) (rest := []) C (cr_isThing hc _) (va_cwS 1 hts gX11_buoy_X11_isThing rfl rfl rfl (by decide +kernel) ⟨Nat.le_of_ble_eq_true rfl, Nat.le_of_ble_eq_true rfl⟩) (q_pre0 hN hK) rfl rfl hl.1 rfl (lv_room (Nat.le_of_ble_eq_true rfl)) dX11_buoy_9 ⟨Nat.le_of_ble_eq_true rfl, Nat.le_of_ble_eq_true rfl⟩) hP hD hS hA (fun r4 w1 H locs hw hP hS => ?_)
    subst hw
    refine lv_if_eq (tgt := 38) hx hb dX11_buoy_12 (by decide) (fun c5 => ?_) (fun c5 => ?_)
    · have hB := if_p hB c5
      refine lv_iconst (v := 0) hx hb dX11_buoy_38 (by decide) ?_
      exact q_zret C hr hlocks (Or.inl rfl) hK hP hD hS (Nat.le_of_ble_eq_true rfl) (Nat.le_of_ble_eq_true rfl) dX11_buoy_39 (by cases hB; exact ⟨rfl, rfl⟩)
    · have hB := if_n hB c5
      refine lv_aload_n hx hb dX11_buoy_15 rfl (lv_at hl 0 rfl) ?_
      refine q_get (v := .ref (a 43)) C inX11_buoy_X11 hK hP 0 rfl rfl 43 (by decide) rfl LX11_buoy_98 rfl dX11_buoy_16 ?_
      refine lv_iload_n hx hb dX11_buoy_19 rfl (lv_at hl 1 rfl) ?_
      obtain ⟨g6, hB⟩ := guard_inv hB
      refine q_iald (x := (s1.f 43 (Int32.toNatClampNeg x1))) C hK hP 27 1 rfl rfl (vpb_in g6) dX11_buoy_20 rfl ?_
      refine lv_iload_n hx hb dX11_buoy_21 rfl (lv_at hl 2 rfl) ?_
      refine lv_ishr hx hb dX11_buoy_22 ?_
      refine lv_iconst (v := 1) hx hb dX11_buoy_23 (by decide) ?_
      refine lv_iand hx hb dX11_buoy_24 ?_
      refine lv_iconst (v := 1) hx hb dX11_buoy_25 (by decide) ?_
      refine lv_icmp_ne (tgt := 33) hx hb dX11_buoy_26 (by decide) (fun c7 => ?_) (fun c7 => ?_)
      · have hB := if_n hB c7
        refine lv_iconst (v := 0) hx hb dX11_buoy_33 (by decide) ?_
        exact br_buoy_34 _ _ _ _ _ hB p e s0 m below meth c A E H locs ls hP hD hS (lv_sub hl [0, 1, 2, 3] rfl)
      · have hB := if_p hB c7
        refine lv_iconst (v := 1) hx hb dX11_buoy_29 (by decide) ?_
        refine lv_goto (tgt := 34) hx hb dX11_buoy_30 (by decide) ?_
        exact br_buoy_34 _ _ _ _ _ hB p e s0 m below meth c A E H locs ls hP hD hS (lv_sub hl [0, 1, 2, 3] rfl)
theorem cr_buoy {l : Launch} {dC : Nat → ClassId} {dI : Nat → Nat → Nat} {cB cI cJ cZ cS : ClassId} {h : Nat} {a : Nat → Nat} {r : Int32} {s' : RS} {s : RS} {x1 : Int32} {x2 : Int32} {x3 : Int32} (hB : r_buoy s x1 x2 x3 = some (r, s')) : CI l yX11_buoy wsX11_buoy ({ frames := 2, cells := 0, slots := 0, locals := 43 }) (dC, dI) (tysA cB cI cJ cZ cS) (mwS cB cI cJ cZ h a s) [.ref h, .int x1, .int x2, .int x3] (fun x u => x = r ∧ u = (mwS cB cI cJ cZ h a s')) :=
  CI_of (cc := cX11_buoy) (maxL := 4) (ret := (some .boolean)) (by decide) rfl (Nat.le_of_ble_eq_true rfl) (br_buoy _ _ _ _ hB)
end
