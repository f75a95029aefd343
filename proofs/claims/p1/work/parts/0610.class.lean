set_option maxRecDepth 20000 in
theorem ggX10_count_X10_partiesThatAre : GoodIn wsX10_count wsX10_partiesThatAre := goodIn_r _ [11, 1, 111, 112, 113, 114, 115, 116, 117, 118, 119, 120, 121, 122, 123, 124, 125, 126, 127, 128, 129, 130, 131, 132, 133, 134, 135, 136] (by decide +kernel) (by decide +kernel)
set_option maxRecDepth 20000 in
theorem gX10_count_X10_partiesThatAre : GoodIn wsX10_count (wsV RX10 244 RX10 yX10_partiesThatAre wsX10_partiesThatAre) := goodIn_app (goodIn_of _ (by decide +kernel)) ggX10_count_X10_partiesThatAre
set_option maxRecDepth 20000 in
theorem ggX10_count_X10_sumOf : GoodIn wsX10_count wsX10_sumOf := goodIn_r _ [14] (by decide +kernel) (by decide +kernel)
set_option maxRecDepth 20000 in
theorem gX10_count_X10_sumOf : GoodIn wsX10_count (va_wsS RX10 289 yX10_sumOf wsX10_sumOf) := goodIn_app (goodIn_of _ (by decide +kernel)) ggX10_count_X10_sumOf
set_option maxRecDepth 20000 in
theorem ggX10_count_X3_slotsHeld : GoodIn wsX10_count wsX3_slotsHeld := goodIn_r _ [18, 19, 139, 140, 141, 142, 143] (by decide +kernel) (by decide +kernel)
set_option maxRecDepth 20000 in
theorem gX10_count_X3_slotsHeld_n296 : GoodIn wsX10_count (wsX3_slotsHeld) := ggX10_count_X3_slotsHeld
set_option maxRecDepth 20000 in
theorem ggX10_count_X10_buoysLying : GoodIn wsX10_count wsX10_buoysLying := goodIn_r _ [23, 1, 2, 24, 25, 26, 27, 28, 29, 30, 111, 112, 113, 114, 115, 116, 117, 118, 119, 120, 121, 122, 123, 124, 125, 126, 127, 128, 129, 130, 131, 132, 133, 134, 135, 136] (by decide +kernel) (by decide +kernel)
set_option maxRecDepth 20000 in
theorem gX10_count_X10_buoysLying : GoodIn wsX10_count (wsV RX10 299 RX10 yX10_buoysLying wsX10_buoysLying) := goodIn_app (goodIn_of _ (by decide +kernel)) ggX10_count_X10_buoysLying
set_option maxRecDepth 20000 in
theorem ggX10_count_X10_wavesFound : GoodIn wsX10_count wsX10_wavesFound := goodIn_r _ [34, 1, 2, 111, 112, 113, 114, 115, 116, 117, 118, 119, 120, 121, 122, 123, 124, 125, 126, 127, 128, 129, 130, 131, 132, 133, 134, 135, 136] (by decide +kernel) (by decide +kernel)
set_option maxRecDepth 20000 in
theorem gX10_count_X10_wavesFound : GoodIn wsX10_count (wsV RX10 302 RX10 yX10_wavesFound wsX10_wavesFound) := goodIn_app (goodIn_of _ (by decide +kernel)) ggX10_count_X10_wavesFound
set_option maxRecDepth 20000 in
theorem ggX10_count_X0_guessThere : GoodIn wsX10_count wsX0_guessThere := goodIn_r _ [38, 39, 40, 41, 42, 43, 44, 45, 10, 46, 47, 48, 49, 50, 51, 52, 53, 54, 55, 152, 153, 120, 121, 122, 123, 124, 125, 126, 127, 128, 129, 130, 131, 132, 133, 134, 135, 136] (by decide +kernel) (by decide +kernel)
set_option maxRecDepth 20000 in
theorem gX10_count_X0_guessThere_n256 : GoodIn wsX10_count (wsX0_guessThere) := ggX10_count_X0_guessThere
set_option maxRecDepth 20000 in
theorem ggX10_count_X10_wavesWithNothing : GoodIn wsX10_count wsX10_wavesWithNothing := goodIn_r _ [59, 1, 6, 2, 60, 36, 61, 62, 39, 111, 112, 113, 114, 115, 116, 117, 118, 119, 120, 121, 122, 123, 124, 125, 126, 127, 128, 129, 130, 131, 132, 133, 134, 135, 136, 152, 153] (by decide +kernel) (by decide +kernel)
set_option maxRecDepth 20000 in
theorem gX10_count_X10_wavesWithNothing : GoodIn wsX10_count (wsV RX10 308 RX10 yX10_wavesWithNothing wsX10_wavesWithNothing) := goodIn_app (goodIn_of _ (by decide +kernel)) ggX10_count_X10_wavesWithNothing
set_option maxRecDepth 20000 in
theorem ggX10_count_X10_faresOfAllHere : GoodIn wsX10_count wsX10_faresOfAllHere := goodIn_r _ [66, 1, 2, 6, 67, 36, 68, 69, 39, 70, 71, 72, 73, 74, 75, 76, 77, 78, 79, 80, 81, 82, 83, 84, 85, 86, 87, 88, 89, 90, 91, 92, 93, 94, 95, 96, 97, 98, 99, 100, 101, 102, 10, 103, 104, 105, 106, 107, 108, 109, 110, 111, 112, 113, 114, 115, 116, 117, 118, 119, 120, 121, 122, 123, 124, 125, 126, 127, 128, 129, 130, 131, 132, 133, 134, 135, 136, 152, 153, 154, 155, 156, 157, 158, 159, 160, 161, 162] (by decide +kernel) (by decide +kernel)
set_option maxRecDepth 20000 in
theorem gX10_count_X10_faresOfAllHere : GoodIn wsX10_count (wsV RX10 311 RX10 yX10_faresOfAllHere wsX10_faresOfAllHere) := goodIn_app (goodIn_of _ (by decide +kernel)) ggX10_count_X10_faresOfAllHere
theorem dX10_count_0 : decode cX10_count 0 = .ok (.iload_n 1, 1) := by decide +kernel
theorem dX10_count_1 : decode cX10_count 1 = .ok (.tableswitch 254 0 18 #[91, 99, 107, 115, 123, 133, 143, 153, 164, 172, 180, 188, 196, 201, 206, 214, 233, 244, 249], 91) := by decide +kernel
theorem dX10_count_92 : decode cX10_count 92 = .ok (.aload_n 0, 1) := by decide +kernel
theorem dX10_count_93 : decode cX10_count 93 = .ok (.getfield 19, 3) := by decide +kernel
theorem dX10_count_96 : decode cX10_count 96 = .ok (.getfield 167, 3) := by decide +kernel
theorem dX10_count_99 : decode cX10_count 99 = .ok (.ireturn, 1) := by decide +kernel
theorem dX10_count_100 : decode cX10_count 100 = .ok (.aload_n 0, 1) := by decide +kernel
theorem dX10_count_101 : decode cX10_count 101 = .ok (.getfield 19, 3) := by decide +kernel
theorem dX10_count_104 : decode cX10_count 104 = .ok (.getfield 235, 3) := by decide +kernel
theorem dX10_count_107 : decode cX10_count 107 = .ok (.ireturn, 1) := by decide +kernel
theorem dX10_count_108 : decode cX10_count 108 = .ok (.aload_n 0, 1) := by decide +kernel
theorem dX10_count_109 : decode cX10_count 109 = .ok (.getfield 35, 3) := by decide +kernel
theorem dX10_count_112 : decode cX10_count 112 = .ok (.getfield 189, 3) := by decide +kernel
theorem dX10_count_115 : decode cX10_count 115 = .ok (.ireturn, 1) := by decide +kernel
theorem dX10_count_116 : decode cX10_count 116 = .ok (.aload_n 0, 1) := by decide +kernel
theorem dX10_count_117 : decode cX10_count 117 = .ok (.getfield 35, 3) := by decide +kernel
theorem dX10_count_120 : decode cX10_count 120 = .ok (.getfield 241, 3) := by decide +kernel
theorem dX10_count_123 : decode cX10_count 123 = .ok (.ireturn, 1) := by decide +kernel
theorem dX10_count_124 : decode cX10_count 124 = .ok (.aload_n 0, 1) := by decide +kernel
theorem dX10_count_125 : decode cX10_count 125 = .ok (.aload_n 0, 1) := by decide +kernel
theorem dX10_count_126 : decode cX10_count 126 = .ok (.getfield 35, 3) := by decide +kernel
theorem dX10_count_129 : decode cX10_count 129 = .ok (.iconst 0, 1) := by decide +kernel
theorem dX10_count_130 : decode cX10_count 130 = .ok (.invokevirtual 244, 3) := by decide +kernel
theorem dX10_count_133 : decode cX10_count 133 = .ok (.ireturn, 1) := by decide +kernel
theorem dX10_count_134 : decode cX10_count 134 = .ok (.aload_n 0, 1) := by decide +kernel
theorem dX10_count_135 : decode cX10_count 135 = .ok (.aload_n 0, 1) := by decide +kernel
theorem dX10_count_136 : decode cX10_count 136 = .ok (.getfield 35, 3) := by decide +kernel
theorem dX10_count_139 : decode cX10_count 139 = .ok (.iconst 1, 1) := by decide +kernel
theorem dX10_count_140 : decode cX10_count 140 = .ok (.invokevirtual 244, 3) := by decide +kernel
theorem dX10_count_143 : decode cX10_count 143 = .ok (.ireturn, 1) := by decide +kernel
theorem dX10_count_144 : decode cX10_count 144 = .ok (.aload_n 0, 1) := by decide +kernel
theorem dX10_count_145 : decode cX10_count 145 = .ok (.aload_n 0, 1) := by decide +kernel
theorem dX10_count_146 : decode cX10_count 146 = .ok (.getfield 35, 3) := by decide +kernel
theorem dX10_count_149 : decode cX10_count 149 = .ok (.iconst 2, 1) := by decide +kernel
theorem dX10_count_150 : decode cX10_count 150 = .ok (.invokevirtual 244, 3) := by decide +kernel
theorem dX10_count_153 : decode cX10_count 153 = .ok (.ireturn, 1) := by decide +kernel
theorem dX10_count_154 : decode cX10_count 154 = .ok (.aload_n 0, 1) := by decide +kernel
theorem dX10_count_155 : decode cX10_count 155 = .ok (.getfield 35, 3) := by decide +kernel
theorem dX10_count_158 : decode cX10_count 158 = .ok (.getfield 150, 3) := by decide +kernel
theorem dX10_count_161 : decode cX10_count 161 = .ok (.invokestatic 289, 3) := by decide +kernel
theorem dX10_count_164 : decode cX10_count 164 = .ok (.ireturn, 1) := by decide +kernel
theorem dX10_count_165 : decode cX10_count 165 = .ok (.aload_n 0, 1) := by decide +kernel
theorem dX10_count_166 : decode cX10_count 166 = .ok (.getfield 10, 3) := by decide +kernel
theorem dX10_count_169 : decode cX10_count 169 = .ok (.getfield 85, 3) := by decide +kernel
theorem dX10_count_172 : decode cX10_count 172 = .ok (.ireturn, 1) := by decide +kernel
theorem dX10_count_173 : decode cX10_count 173 = .ok (.aload_n 0, 1) := by decide +kernel
theorem dX10_count_174 : decode cX10_count 174 = .ok (.getfield 45, 3) := by decide +kernel
theorem dX10_count_177 : decode cX10_count 177 = .ok (.getfield 293, 3) := by decide +kernel
theorem dX10_count_180 : decode cX10_count 180 = .ok (.ireturn, 1) := by decide +kernel
theorem dX10_count_181 : decode cX10_count 181 = .ok (.aload_n 0, 1) := by decide +kernel
theorem dX10_count_182 : decode cX10_count 182 = .ok (.getfield 70, 3) := by decide +kernel
theorem dX10_count_185 : decode cX10_count 185 = .ok (.getfield 102, 3) := by decide +kernel
theorem dX10_count_188 : decode cX10_count 188 = .ok (.ireturn, 1) := by decide +kernel
theorem dX10_count_189 : decode cX10_count 189 = .ok (.aload_n 0, 1) := by decide +kernel
theorem dX10_count_190 : decode cX10_count 190 = .ok (.getfield 45, 3) := by decide +kernel
theorem dX10_count_193 : decode cX10_count 193 = .ok (.invokevirtual 296, 3) := by decide +kernel
theorem dX10_count_196 : decode cX10_count 196 = .ok (.ireturn, 1) := by decide +kernel
theorem dX10_count_197 : decode cX10_count 197 = .ok (.aload_n 0, 1) := by decide +kernel
theorem dX10_count_198 : decode cX10_count 198 = .ok (.invokevirtual 299, 3) := by decide +kernel
theorem dX10_count_201 : decode cX10_count 201 = .ok (.ireturn, 1) := by decide +kernel
theorem dX10_count_202 : decode cX10_count 202 = .ok (.aload_n 0, 1) := by decide +kernel
theorem dX10_count_203 : decode cX10_count 203 = .ok (.invokevirtual 302, 3) := by decide +kernel
theorem dX10_count_206 : decode cX10_count 206 = .ok (.ireturn, 1) := by decide +kernel
theorem dX10_count_207 : decode cX10_count 207 = .ok (.aload_n 0, 1) := by decide +kernel
theorem dX10_count_208 : decode cX10_count 208 = .ok (.getfield 19, 3) := by decide +kernel
theorem dX10_count_211 : decode cX10_count 211 = .ok (.getfield 305, 3) := by decide +kernel
theorem dX10_count_214 : decode cX10_count 214 = .ok (.ireturn, 1) := by decide +kernel
theorem dX10_count_215 : decode cX10_count 215 = .ok (.aload_n 0, 1) := by decide +kernel
theorem dX10_count_216 : decode cX10_count 216 = .ok (.getfield 54, 3) := by decide +kernel
theorem dX10_count_219 : decode cX10_count 219 = .ok (.aload_n 0, 1) := by decide +kernel
theorem dX10_count_220 : decode cX10_count 220 = .ok (.getfield 35, 3) := by decide +kernel
theorem dX10_count_223 : decode cX10_count 223 = .ok (.aload_n 0, 1) := by decide +kernel
theorem dX10_count_224 : decode cX10_count 224 = .ok (.getfield 19, 3) := by decide +kernel
theorem dX10_count_227 : decode cX10_count 227 = .ok (.getfield 253, 3) := by decide +kernel
theorem dX10_count_230 : decode cX10_count 230 = .ok (.invokevirtual 256, 3) := by decide +kernel
theorem dX10_count_233 : decode cX10_count 233 = .ok (.ireturn, 1) := by decide +kernel
theorem dX10_count_234 : decode cX10_count 234 = .ok (.aload_n 0, 1) := by decide +kernel
theorem dX10_count_235 : decode cX10_count 235 = .ok (.getfield 35, 3) := by decide +kernel
theorem dX10_count_238 : decode cX10_count 238 = .ok (.getfield 122, 3) := by decide +kernel
theorem dX10_count_241 : decode cX10_count 241 = .ok (.invokestatic 289, 3) := by decide +kernel
theorem dX10_count_244 : decode cX10_count 244 = .ok (.ireturn, 1) := by decide +kernel
theorem dX10_count_245 : decode cX10_count 245 = .ok (.aload_n 0, 1) := by decide +kernel
theorem dX10_count_246 : decode cX10_count 246 = .ok (.invokevirtual 308, 3) := by decide +kernel
theorem dX10_count_249 : decode cX10_count 249 = .ok (.ireturn, 1) := by decide +kernel
theorem dX10_count_250 : decode cX10_count 250 = .ok (.aload_n 0, 1) := by decide +kernel
theorem dX10_count_251 : decode cX10_count 251 = .ok (.invokevirtual 311, 3) := by decide +kernel
theorem dX10_count_254 : decode cX10_count 254 = .ok (.ireturn, 1) := by decide +kernel
theorem dX10_count_255 : decode cX10_count 255 = .ok (.iconst (-1), 1) := by decide +kernel
theorem dX10_count_256 : decode cX10_count 256 = .ok (.ireturn, 1) := by decide +kernel
theorem dX10_faresOfAllHere_0 : decode cX10_faresOfAllHere 0 = .ok (.iconst 0, 1) := by decide +kernel
theorem dX10_faresOfAllHere_1 : decode cX10_faresOfAllHere 1 = .ok (.istore_n 1, 1) := by decide +kernel
theorem dX10_faresOfAllHere_2 : decode cX10_faresOfAllHere 2 = .ok (.iconst 0, 1) := by decide +kernel
theorem dX10_faresOfAllHere_3 : decode cX10_faresOfAllHere 3 = .ok (.istore_n 2, 1) := by decide +kernel
theorem dX10_faresOfAllHere_4 : decode cX10_faresOfAllHere 4 = .ok (.iload_n 2, 1) := by decide +kernel
theorem dX10_faresOfAllHere_5 : decode cX10_faresOfAllHere 5 = .ok (.aload_n 0, 1) := by decide +kernel
theorem dX10_faresOfAllHere_6 : decode cX10_faresOfAllHere 6 = .ok (.getfield 19, 3) := by decide +kernel
theorem dX10_faresOfAllHere_9 : decode cX10_faresOfAllHere 9 = .ok (.getfield 235, 3) := by decide +kernel
theorem dX10_faresOfAllHere_12 : decode cX10_faresOfAllHere 12 = .ok (.if_icmp .ge 36, 3) := by decide +kernel
theorem dX10_faresOfAllHere_48 : decode cX10_faresOfAllHere 48 = .ok (.iload_n 1, 1) := by decide +kernel
theorem dX10_faresOfAllHere_49 : decode cX10_faresOfAllHere 49 = .ok (.ireturn, 1) := by decide +kernel
set_option maxHeartbeats 4000000 in
set_option maxRecDepth 100000 in
theorem k_X10_faresOfAllHere (l : Launch) (dC : Nat → ClassId) (dI : Nat → Nat → Nat) (cB cI cJ cZ cS : ClassId) (q_G : Nat) (q_sound : Nat) (u_G_0 : Value) (u_G_2 : Value) (u_G_3 : Value) (u_G_4 : Value) (u_G_5 : Value) (u_G_6 : Value) (u_G_7 : Value) (u_G_8 : Value) (u_sound_0 : Value) (u_sound_1 : Value) (u_sound_2 : Value) (u_sound_3 : Value) (u_sound_4 : Value) (u_sound_5 : Value) (u_sound_6 : Value) (u_sound_8 : Value) (u_sound_9 : Value) : CI l yX10_faresOfAllHere wsX10_faresOfAllHere ({ frames := 0, cells := 0, slots := 0, locals := 0 }) (dC, dI) (tysA cB cI cJ cZ cS) [(q_G, .inr (10, [u_G_0, .ref q_sound, u_G_2, u_G_3, u_G_4, u_G_5, u_G_6, u_G_7, u_G_8])), (q_sound, .inr (5, [u_sound_0, u_sound_1, u_sound_2, u_sound_3, u_sound_4, u_sound_5, u_sound_6, .int 0, u_sound_8, u_sound_9]))] [.ref q_G] (fun r w => w = [(q_G, .inr (10, [u_G_0, .ref q_sound, u_G_2, u_G_3, u_G_4, u_G_5, u_G_6, u_G_7, u_G_8])), (q_sound, .inr (5, [u_sound_0, u_sound_1, u_sound_2, u_sound_3, u_sound_4, u_sound_5, u_sound_6, .int 0, u_sound_8, u_sound_9]))] ∧ r = 0) := by
  refine open_I (cc := cX10_faresOfAllHere) (maxL := 3) (ret := (some .int)) (by decide) rfl (Nat.le_of_ble_eq_true rfl) ?_
  intro p e s m below meth c A ls E
  obtain ⟨C, hr, hlocks, hnm, hA, hP, hK, hD, hN, hl⟩ := E
  obtain ⟨hx, hb, hml, hown, hts⟩ := id C
  have hS : va_S A s.heap s.heap [] := va_S.rf
  have hl : lv_has ls 3 [(0, .ref q_G)] := hl
  have inX10 : ∀ w ∈ u_ws RX10 TX10 9, w ∈ wsX10_faresOfAllHere := by decide +kernel
  have inX5 : ∀ w ∈ u_ws RX5 TX5 10, w ∈ wsX10_faresOfAllHere := by decide +kernel
  have L19 : Cond.fieldLink RX10 19 "GuessFerry" "sound" "LGuessFerry$Sound;" ∈ wsX10_faresOfAllHere := by decide +kernel
  refine lv_iconst (v := 0) hx hb dX10_faresOfAllHere_0 (by decide) ?_
  refine lv_istore_n (lv' := [(1, .int 0), (0, .ref q_G)]) hx hb dX10_faresOfAllHere_1 rfl hl (by decide) rfl (fun ls hl => ?_)
  refine lv_iconst (v := 0) hx hb dX10_faresOfAllHere_2 (by decide) ?_
  refine lv_istore_n (lv' := [(2, .int 0), (1, .int 0), (0, .ref q_G)]) hx hb dX10_faresOfAllHere_3 rfl hl (by decide) rfl (fun ls hl => ?_)
  refine lv_iload_n hx hb dX10_faresOfAllHere_4 rfl (lv_at hl 0 rfl) ?_
  refine lv_aload_n hx hb dX10_faresOfAllHere_5 rfl (lv_at hl 2 rfl) ?_
  refine q_get (v := .ref q_sound) C inX10 hK hP 0 rfl rfl 1 (by decide) rfl L19 rfl dX10_faresOfAllHere_6 ?_
  refine q_getN (v := .int 0) C hN inX5 hK hP 1 rfl rfl 7 (by decide) rfl nwF_X10_235 rfl dX10_faresOfAllHere_9 ?_
  refine lv_icmp_ge (tgt := 48) hx hb dX10_faresOfAllHere_12 (by decide) (fun _ => ?_) (fun h => absurd (by decide +kernel) h)
  refine lv_iload_n hx hb dX10_faresOfAllHere_48 rfl (lv_at hl 1 rfl) ?_
  exact q_iret C hr hlocks hK hP hD hS (Nat.le_of_ble_eq_true rfl) (Nat.le_of_ble_eq_true rfl) dX10_faresOfAllHere_49 (⟨rfl, rfl⟩)

set_option maxHeartbeats 4000000 in
set_option maxRecDepth 100000 in
theorem k_X10_count (l : Launch) (dC : Nat → ClassId) (dI : Nat → Nat → Nat) (cB cI cJ cZ cS : ClassId) (q_G : Nat) (q_tape : Nat) (q_sound : Nat) (q_now : Nat) (q_now_shifted : Nat) (q_now_goes : Nat) (q_past : Nat) (q_isHeld : Nat) (q_crossing : Nat) (q_tellers : Nat) (u_G_2 : Value) (u_G_4 : Value) (u_G_7 : Value) (u_sound_0 : Value) (u_sound_1 : Value) (u_sound_2 : Value) (u_sound_3 : Value) (u_sound_4 : Value) (u_sound_5 : Value) (u_now_0 : Value) (u_now_1 : Value) (u_now_3 : Value) (f_now_goes : Nat → Int32) (u_tape_0 : Value) (u_past_0 : Value) (u_past_1 : Value) (u_past_3 : Value) (u_tellers_0 : Value) (u_tellers_1 : Value) (u_tellers_2 : Value) (u_tellers_3 : Value) (u_tellers_4 : Value) (u_tellers_5 : Value) (u_tellers_6 : Value) (f_isHeld : Nat → Int32) (u_crossing_1 : Value) (f_now_shifted : Nat → Int32) (h_now_goes_0 : f_now_goes 0 = 0) (h_now_goes_1 : f_now_goes 1 = 0) (h_now_goes_2 : f_now_goes 2 = 0) (h_now_goes_3 : f_now_goes 3 = 0) (h_now_goes_4 : f_now_goes 4 = 0) (h_now_goes_5 : f_now_goes 5 = 0) (h_isHeld_0 : f_isHeld 0 = 0) (h_isHeld_1 : f_isHeld 1 = 0) (h_isHeld_2 : f_isHeld 2 = 0) (h_now_shifted_0 : f_now_shifted 0 = 0) (h_now_shifted_1 : f_now_shifted 1 = 0) (h_now_shifted_2 : f_now_shifted 2 = 0) (h_now_shifted_3 : f_now_shifted 3 = 0) (h_now_shifted_4 : f_now_shifted 4 = 0) (x1 : Int32) : CI l yX10_count wsX10_count ({ frames := 1, cells := 0, slots := 0, locals := 24 }) (dC, dI) (tysA cB cI cJ cZ cS) [(q_G, .inr (10, [.ref q_tape, .ref q_sound, u_G_2, .ref q_now, u_G_4, .ref q_past, .ref q_crossing, u_G_7, .ref q_tellers])), (q_sound, .inr (5, [u_sound_0, u_sound_1, u_sound_2, u_sound_3, u_sound_4, u_sound_5, .int 0, .int 0, .int 1, .int 0])), (q_now, .inr (6, [u_now_0, u_now_1, .ref q_now_shifted, u_now_3, .ref q_now_goes, .int 0, .int 0])), (q_now_goes, .inl (cI, 6, .inl f_now_goes)), (q_tape, .inr (7, [u_tape_0, .int 0])), (q_past, .inr (3, [u_past_0, u_past_1, .ref q_isHeld, u_past_3, .int 0])), (q_tellers, .inr (8, [u_tellers_0, u_tellers_1, u_tellers_2, u_tellers_3, u_tellers_4, u_tellers_5, u_tellers_6, .int 0])), (q_isHeld, .inl (cZ, 3, .inl f_isHeld)), (q_crossing, .inr (0, [.ref q_sound, u_crossing_1])), (q_now_shifted, .inl (cI, 5, .inl f_now_shifted))] [.ref q_G, .int x1] (fun r _ => r = (fr_count x1)) := by
  refine open_I (cc := cX10_count) (maxL := 2) (ret := (some .int)) (by decide) rfl (Nat.le_of_ble_eq_true rfl) ?_
  intro p e s m below meth c A ls E
  obtain ⟨C, hr, hlocks, hnm, hA, hP, hK, hD, hN, hl⟩ := E
  obtain ⟨hx, hb, hml, hown, hts⟩ := id C
  have hS : va_S A s.heap s.heap [] := va_S.rf
  have hl : lv_has ls 2 [(0, .ref q_G), (1, .int x1)] := hl
  have inX10 : ∀ w ∈ u_ws RX10 TX10 9, w ∈ wsX10_count := by decide +kernel
  have inX3 : ∀ w ∈ u_ws RX3 TX3 5, w ∈ wsX10_count := by decide +kernel
  have inX5 : ∀ w ∈ u_ws RX5 TX5 10, w ∈ wsX10_count := by decide +kernel
  have inX6 : ∀ w ∈ u_ws RX6 TX6 7, w ∈ wsX10_count := by decide +kernel
  have inX7 : ∀ w ∈ u_ws RX7 TX7 2, w ∈ wsX10_count := by decide +kernel
  have inX8 : ∀ w ∈ u_ws RX8 TX8 8, w ∈ wsX10_count := by decide +kernel
  have E_X0_guessThere : Cond.selects RX0 yX0_guessThere yX0_guessThere ∈ wsX10_count := by decide +kernel
  have E_X3_slotsHeld : Cond.selects RX3 yX3_slotsHeld yX3_slotsHeld ∈ wsX10_count := by decide +kernel
  have I_X0 : Cond.initialized RX0 ∈ wsX10_count := by decide +kernel
  have I_X3 : Cond.initialized RX3 ∈ wsX10_count := by decide +kernel
  have L10 : Cond.fieldLink RX10 10 "GuessFerry" "tape" "LGuessFerry$Tape;" ∈ wsX10_count := by decide +kernel
  have L19 : Cond.fieldLink RX10 19 "GuessFerry" "sound" "LGuessFerry$Sound;" ∈ wsX10_count := by decide +kernel
  have L35 : Cond.fieldLink RX10 35 "GuessFerry" "now" "LGuessFerry$Standing;" ∈ wsX10_count := by decide +kernel
  have L45 : Cond.fieldLink RX10 45 "GuessFerry" "past" "LGuessFerry$Past;" ∈ wsX10_count := by decide +kernel
  have L54 : Cond.fieldLink RX10 54 "GuessFerry" "crossing" "LGuessFerry$Crossing;" ∈ wsX10_count := by decide +kernel
  have L70 : Cond.fieldLink RX10 70 "GuessFerry" "tellers" "LGuessFerry$Tellers;" ∈ wsX10_count := by decide +kernel
  have N_X0_guessThere : Cond.instanceMethod yX0_guessThere ∈ wsX10_count := by decide +kernel
  have N_X3_slotsHeld : Cond.instanceMethod yX3_slotsHeld ∈ wsX10_count := by decide +kernel
  refine lv_iload_n hx hb dX10_count_0 rfl (lv_at hl 1 rfl) ?_
  by_cases e1 : x1 = 0
  · refine q_top (y := 0) e1 ?_
    refine lv_tableIn (off := 91) (tgt := 92) hx hb dX10_count_1 (by decide +kernel) (by decide +kernel) (by decide +kernel) (by decide) ?_
    refine lv_aload_n hx hb dX10_count_92 rfl (lv_at hl 0 rfl) ?_
    refine q_get (v := .ref q_sound) C inX10 hK hP 0 rfl rfl 1 (by decide) rfl L19 rfl dX10_count_93 ?_
    refine q_getN (v := .int 0) C hN inX5 hK hP 1 rfl rfl 6 (by decide) rfl nwF_X10_167 rfl dX10_count_96 ?_
    exact q_iret C hr hlocks hK hP hD hS (Nat.le_of_ble_eq_true rfl) (Nat.le_of_ble_eq_true rfl) dX10_count_99 (by rw [e1]; decide +kernel)
  · skip
    by_cases e2 : x1 = 1
    · refine q_top (y := 1) e2 ?_
      refine lv_tableIn (off := 99) (tgt := 100) hx hb dX10_count_1 (by decide +kernel) (by decide +kernel) (by decide +kernel) (by decide) ?_
      refine lv_aload_n hx hb dX10_count_100 rfl (lv_at hl 0 rfl) ?_
      refine q_get (v := .ref q_sound) C inX10 hK hP 0 rfl rfl 1 (by decide) rfl L19 rfl dX10_count_101 ?_
      refine q_getN (v := .int 0) C hN inX5 hK hP 1 rfl rfl 7 (by decide) rfl nwF_X10_235 rfl dX10_count_104 ?_
      exact q_iret C hr hlocks hK hP hD hS (Nat.le_of_ble_eq_true rfl) (Nat.le_of_ble_eq_true rfl) dX10_count_107 (by rw [e2]; decide +kernel)
    · skip
      by_cases e3 : x1 = 2
      · refine q_top (y := 2) e3 ?_
        refine lv_tableIn (off := 107) (tgt := 108) hx hb dX10_count_1 (by decide +kernel) (by decide +kernel) (by decide +kernel) (by decide) ?_
        refine lv_aload_n hx hb dX10_count_108 rfl (lv_at hl 0 rfl) ?_
        refine q_get (v := .ref q_now) C inX10 hK hP 0 rfl rfl 3 (by decide) rfl L35 rfl dX10_count_109 ?_
        refine q_getN (v := .int 0) C hN inX6 hK hP 2 rfl rfl 5 (by decide) rfl nwF_X10_189 rfl dX10_count_112 ?_
        exact q_iret C hr hlocks hK hP hD hS (Nat.le_of_ble_eq_true rfl) (Nat.le_of_ble_eq_true rfl) dX10_count_115 (by rw [e3]; decide +kernel)
      · skip
        by_cases e4 : x1 = 3
        · refine q_top (y := 3) e4 ?_
          refine lv_tableIn (off := 115) (tgt := 116) hx hb dX10_count_1 (by decide +kernel) (by decide +kernel) (by decide +kernel) (by decide) ?_
          refine lv_aload_n hx hb dX10_count_116 rfl (lv_at hl 0 rfl) ?_
          refine q_get (v := .ref q_now) C inX10 hK hP 0 rfl rfl 3 (by decide) rfl L35 rfl dX10_count_117 ?_
          refine q_getN (v := .int 0) C hN inX6 hK hP 2 rfl rfl 6 (by decide) rfl nwF_X10_241 rfl dX10_count_120 ?_
          exact q_iret C hr hlocks hK hP hD hS (Nat.le_of_ble_eq_true rfl) (Nat.le_of_ble_eq_true rfl) dX10_count_123 (by rw [e4]; decide +kernel)
        · skip
          by_cases e5 : x1 = 4
          · refine q_top (y := 4) e5 ?_
            refine lv_tableIn (off := 123) (tgt := 124) hx hb dX10_count_1 (by decide +kernel) (by decide +kernel) (by decide +kernel) (by decide) ?_
            refine lv_aload_n hx hb dX10_count_124 rfl (lv_at hl 0 rfl) ?_
            refine lv_aload_n hx hb dX10_count_125 rfl (lv_at hl 0 rfl) ?_
            refine q_get (v := .ref q_now) C inX10 hK hP 0 rfl rfl 3 (by decide) rfl L35 rfl dX10_count_126 ?_
            refine lv_iconst (v := 0) hx hb dX10_count_129 (by decide) ?_
            refine q_goi (wr := [(q_now, .inr (6, [u_now_0, u_now_1, .ref q_now_shifted, u_now_3, .ref q_now_goes, .int 0, .int 0])), (q_now_goes, .inl (cI, 6, .inl f_now_goes)), (q_tape, .inr (7, [u_tape_0, .int 0])), (q_past, .inr (3, [u_past_0, u_past_1, .ref q_isHeld, u_past_3, .int 0])), (q_tellers, .inr (8, [u_tellers_0, u_tellers_1, u_tellers_2, u_tellers_3, u_tellers_4, u_tellers_5, u_tellers_6, .int 0])), (q_isHeld, .inl (cZ, 3, .inl f_isHeld)), (q_crossing, .inr (0, [.ref q_sound, u_crossing_1])), (q_now_shifted, .inl (cI, 5, .inl f_now_shifted))]) (va_runV (As := [.ref q_now, .int 0]) (rest := []) C (k_X10_partiesThatAre l dC dI cB cI cJ cZ cS (q_G) (q_sound) (q_now) (.ref q_tape) (u_G_2) (.ref q_now) (u_G_4) (.ref q_past) (.ref q_crossing) (u_G_7) (.ref q_tellers) (u_sound_0) (u_sound_1) (u_sound_2) (u_sound_3) (u_sound_4) (u_sound_5) (.int 0) (.int 1) (.int 0) 0 _) (cwV 2 hts gX10_count_X10_partiesThatAre rfl rfl rfl (by decide +kernel) ⟨Nat.le_of_ble_eq_true rfl, Nat.le_of_ble_eq_true rfl⟩) (q_preV hK hP (ci := 10) (q0 := 0) rfl rfl rfl (q_pre hN hK hP hD [0, 1] rfl (by decide))) rfl rfl hl.1 rfl (lv_room (Nat.le_of_ble_eq_true rfl)) dX10_count_130 ⟨Nat.le_of_ble_eq_true rfl, Nat.le_of_ble_eq_true rfl⟩) hP hD hS hA [0, 1] [2, 3, 4, 5, 6, 7, 8, 9] rfl rfl (by decide) (by decide) (fun r w1 H locs hw hP hD hS => ?_)
            obtain ⟨rfl, rfl⟩ := hw
            have hP : va_P (dC, dI) vwCl [(q_G, .inr (10, [.ref q_tape, .ref q_sound, u_G_2, .ref q_now, u_G_4, .ref q_past, .ref q_crossing, u_G_7, .ref q_tellers])), (q_sound, .inr (5, [u_sound_0, u_sound_1, u_sound_2, u_sound_3, u_sound_4, u_sound_5, .int 0, .int 0, .int 1, .int 0])), (q_now, .inr (6, [u_now_0, u_now_1, .ref q_now_shifted, u_now_3, .ref q_now_goes, .int 0, .int 0])), (q_now_goes, .inl (cI, 6, .inl f_now_goes)), (q_tape, .inr (7, [u_tape_0, .int 0])), (q_past, .inr (3, [u_past_0, u_past_1, .ref q_isHeld, u_past_3, .int 0])), (q_tellers, .inr (8, [u_tellers_0, u_tellers_1, u_tellers_2, u_tellers_3, u_tellers_4, u_tellers_5, u_tellers_6, .int 0])), (q_isHeld, .inl (cZ, 3, .inl f_isHeld)), (q_crossing, .inr (0, [.ref q_sound, u_crossing_1])), (q_now_shifted, .inl (cI, 5, .inl f_now_shifted))] H := hP.sub [8, 9, 0, 1, 2, 3, 4, 5, 6, 7] rfl
            have hD : va_D A [(q_G, .inr (10, [.ref q_tape, .ref q_sound, u_G_2, .ref q_now, u_G_4, .ref q_past, .ref q_crossing, u_G_7, .ref q_tellers])), (q_sound, .inr (5, [u_sound_0, u_sound_1, u_sound_2, u_sound_3, u_sound_4, u_sound_5, .int 0, .int 0, .int 1, .int 0])), (q_now, .inr (6, [u_now_0, u_now_1, .ref q_now_shifted, u_now_3, .ref q_now_goes, .int 0, .int 0])), (q_now_goes, .inl (cI, 6, .inl f_now_goes)), (q_tape, .inr (7, [u_tape_0, .int 0])), (q_past, .inr (3, [u_past_0, u_past_1, .ref q_isHeld, u_past_3, .int 0])), (q_tellers, .inr (8, [u_tellers_0, u_tellers_1, u_tellers_2, u_tellers_3, u_tellers_4, u_tellers_5, u_tellers_6, .int 0])), (q_isHeld, .inl (cZ, 3, .inl f_isHeld)), (q_crossing, .inr (0, [.ref q_sound, u_crossing_1])), (q_now_shifted, .inl (cI, 5, .inl f_now_shifted))] := hD.sub [8, 9, 0, 1, 2, 3, 4, 5, 6, 7] (by decide) rfl
            exact q_iret C hr hlocks hK hP hD hS (Nat.le_of_ble_eq_true rfl) (Nat.le_of_ble_eq_true rfl) dX10_count_133 (by rw [e5]; decide +kernel)
          · skip
            by_cases e6 : x1 = 5
            · refine q_top (y := 5) e6 ?_
              refine lv_tableIn (off := 133) (tgt := 134) hx hb dX10_count_1 (by decide +kernel) (by decide +kernel) (by decide +kernel) (by decide) ?_
              refine lv_aload_n hx hb dX10_count_134 rfl (lv_at hl 0 rfl) ?_
              refine lv_aload_n hx hb dX10_count_135 rfl (lv_at hl 0 rfl) ?_
              refine q_get (v := .ref q_now) C inX10 hK hP 0 rfl rfl 3 (by decide) rfl L35 rfl dX10_count_136 ?_
              refine lv_iconst (v := 1) hx hb dX10_count_139 (by decide) ?_
              refine q_goi (wr := [(q_now, .inr (6, [u_now_0, u_now_1, .ref q_now_shifted, u_now_3, .ref q_now_goes, .int 0, .int 0])), (q_now_goes, .inl (cI, 6, .inl f_now_goes)), (q_tape, .inr (7, [u_tape_0, .int 0])), (q_past, .inr (3, [u_past_0, u_past_1, .ref q_isHeld, u_past_3, .int 0])), (q_tellers, .inr (8, [u_tellers_0, u_tellers_1, u_tellers_2, u_tellers_3, u_tellers_4, u_tellers_5, u_tellers_6, .int 0])), (q_isHeld, .inl (cZ, 3, .inl f_isHeld)), (q_crossing, .inr (0, [.ref q_sound, u_crossing_1])), (q_now_shifted, .inl (cI, 5, .inl f_now_shifted))]) (va_runV (As := [.ref q_now, .int 1]) (rest := []) C (k_X10_partiesThatAre l dC dI cB cI cJ cZ cS (q_G) (q_sound) (q_now) (.ref q_tape) (u_G_2) (.ref q_now) (u_G_4) (.ref q_past) (.ref q_crossing) (u_G_7) (.ref q_tellers) (u_sound_0) (u_sound_1) (u_sound_2) (u_sound_3) (u_sound_4) (u_sound_5) (.int 0) (.int 1) (.int 0) 1 _) (cwV 2 hts gX10_count_X10_partiesThatAre rfl rfl rfl (by decide +kernel) ⟨Nat.le_of_ble_eq_true rfl, Nat.le_of_ble_eq_true rfl⟩) (q_preV hK hP (ci := 10) (q0 := 0) rfl rfl rfl (q_pre hN hK hP hD [0, 1] rfl (by decide))) rfl rfl hl.1 rfl (lv_room (Nat.le_of_ble_eq_true rfl)) dX10_count_140 ⟨Nat.le_of_ble_eq_true rfl, Nat.le_of_ble_eq_true rfl⟩) hP hD hS hA [0, 1] [2, 3, 4, 5, 6, 7, 8, 9] rfl rfl (by decide) (by decide) (fun r w1 H locs hw hP hD hS => ?_)
              obtain ⟨rfl, rfl⟩ := hw
              have hP : va_P (dC, dI) vwCl [(q_G, .inr (10, [.ref q_tape, .ref q_sound, u_G_2, .ref q_now, u_G_4, .ref q_past, .ref q_crossing, u_G_7, .ref q_tellers])), (q_sound, .inr (5, [u_sound_0, u_sound_1, u_sound_2, u_sound_3, u_sound_4, u_sound_5, .int 0, .int 0, .int 1, .int 0])), (q_now, .inr (6, [u_now_0, u_now_1, .ref q_now_shifted, u_now_3, .ref q_now_goes, .int 0, .int 0])), (q_now_goes, .inl (cI, 6, .inl f_now_goes)), (q_tape, .inr (7, [u_tape_0, .int 0])), (q_past, .inr (3, [u_past_0, u_past_1, .ref q_isHeld, u_past_3, .int 0])), (q_tellers, .inr (8, [u_tellers_0, u_tellers_1, u_tellers_2, u_tellers_3, u_tellers_4, u_tellers_5, u_tellers_6, .int 0])), (q_isHeld, .inl (cZ, 3, .inl f_isHeld)), (q_crossing, .inr (0, [.ref q_sound, u_crossing_1])), (q_now_shifted, .inl (cI, 5, .inl f_now_shifted))] H := hP.sub [8, 9, 0, 1, 2, 3, 4, 5, 6, 7] rfl
              have hD : va_D A [(q_G, .inr (10, [.ref q_tape, .ref q_sound, u_G_2, .ref q_now, u_G_4, .ref q_past, .ref q_crossing, u_G_7, .ref q_tellers])), (q_sound, .inr (5, [u_sound_0, u_sound_1, u_sound_2, u_sound_3, u_sound_4, u_sound_5, .int 0, .int 0, .int 1, .int 0])), (q_now, .inr (6, [u_now_0, u_now_1, .ref q_now_shifted, u_now_3, .ref q_now_goes, .int 0, .int 0])), (q_now_goes, .inl (cI, 6, .inl f_now_goes)), (q_tape, .inr (7, [u_tape_0, .int 0])), (q_past, .inr (3, [u_past_0, u_past_1, .ref q_isHeld, u_past_3, .int 0])), (q_tellers, .inr (8, [u_tellers_0, u_tellers_1, u_tellers_2, u_tellers_3, u_tellers_4, u_tellers_5, u_tellers_6, .int 0])), (q_isHeld, .inl (cZ, 3, .inl f_isHeld)), (q_crossing, .inr (0, [.ref q_sound, u_crossing_1])), (q_now_shifted, .inl (cI, 5, .inl f_now_shifted))] := hD.sub [8, 9, 0, 1, 2, 3, 4, 5, 6, 7] (by decide) rfl
              exact q_iret C hr hlocks hK hP hD hS (Nat.le_of_ble_eq_true rfl) (Nat.le_of_ble_eq_true rfl) dX10_count_143 (by rw [e6]; decide +kernel)
            · skip
              by_cases e7 : x1 = 6
              · refine q_top (y := 6) e7 ?_
                refine lv_tableIn (off := 143) (tgt := 144) hx hb dX10_count_1 (by decide +kernel) (by decide +kernel) (by decide +kernel) (by decide) ?_
                refine lv_aload_n hx hb dX10_count_144 rfl (lv_at hl 0 rfl) ?_
                refine lv_aload_n hx hb dX10_count_145 rfl (lv_at hl 0 rfl) ?_
                refine q_get (v := .ref q_now) C inX10 hK hP 0 rfl rfl 3 (by decide) rfl L35 rfl dX10_count_146 ?_
                refine lv_iconst (v := 2) hx hb dX10_count_149 (by decide) ?_
                refine q_goi (wr := [(q_now, .inr (6, [u_now_0, u_now_1, .ref q_now_shifted, u_now_3, .ref q_now_goes, .int 0, .int 0])), (q_now_goes, .inl (cI, 6, .inl f_now_goes)), (q_tape, .inr (7, [u_tape_0, .int 0])), (q_past, .inr (3, [u_past_0, u_past_1, .ref q_isHeld, u_past_3, .int 0])), (q_tellers, .inr (8, [u_tellers_0, u_tellers_1, u_tellers_2, u_tellers_3, u_tellers_4, u_tellers_5, u_tellers_6, .int 0])), (q_isHeld, .inl (cZ, 3, .inl f_isHeld)), (q_crossing, .inr (0, [.ref q_sound, u_crossing_1])), (q_now_shifted, .inl (cI, 5, .inl f_now_shifted))]) (va_runV (As := [.ref q_now, .int 2]) (rest := []) C (k_X10_partiesThatAre l dC dI cB cI cJ cZ cS (q_G) (q_sound) (q_now) (.ref q_tape) (u_G_2) (.ref q_now) (u_G_4) (.ref q_past) (.ref q_crossing) (u_G_7) (.ref q_tellers) (u_sound_0) (u_sound_1) (u_sound_2) (u_sound_3) (u_sound_4) (u_sound_5) (.int 0) (.int 1) (.int 0) 2 _) (cwV 2 hts gX10_count_X10_partiesThatAre rfl rfl rfl (by decide +kernel) ⟨Nat.le_of_ble_eq_true rfl, Nat.le_of_ble_eq_true rfl⟩) (q_preV hK hP (ci := 10) (q0 := 0) rfl rfl rfl (q_pre hN hK hP hD [0, 1] rfl (by decide))) rfl rfl hl.1 rfl (lv_room (Nat.le_of_ble_eq_true rfl)) dX10_count_150 ⟨Nat.le_of_ble_eq_true rfl, Nat.le_of_ble_eq_true rfl⟩) hP hD hS hA [0, 1] [2, 3, 4, 5, 6, 7, 8, 9] rfl rfl (by decide) (by decide) (fun r w1 H locs hw hP hD hS => ?_)
                obtain ⟨rfl, rfl⟩ := hw
                have hP : va_P (dC, dI) vwCl [(q_G, .inr (10, [.ref q_tape, .ref q_sound, u_G_2, .ref q_now, u_G_4, .ref q_past, .ref q_crossing, u_G_7, .ref q_tellers])), (q_sound, .inr (5, [u_sound_0, u_sound_1, u_sound_2, u_sound_3, u_sound_4, u_sound_5, .int 0, .int 0, .int 1, .int 0])), (q_now, .inr (6, [u_now_0, u_now_1, .ref q_now_shifted, u_now_3, .ref q_now_goes, .int 0, .int 0])), (q_now_goes, .inl (cI, 6, .inl f_now_goes)), (q_tape, .inr (7, [u_tape_0, .int 0])), (q_past, .inr (3, [u_past_0, u_past_1, .ref q_isHeld, u_past_3, .int 0])), (q_tellers, .inr (8, [u_tellers_0, u_tellers_1, u_tellers_2, u_tellers_3, u_tellers_4, u_tellers_5, u_tellers_6, .int 0])), (q_isHeld, .inl (cZ, 3, .inl f_isHeld)), (q_crossing, .inr (0, [.ref q_sound, u_crossing_1])), (q_now_shifted, .inl (cI, 5, .inl f_now_shifted))] H := hP.sub [8, 9, 0, 1, 2, 3, 4, 5, 6, 7] rfl
                have hD : va_D A [(q_G, .inr (10, [.ref q_tape, .ref q_sound, u_G_2, .ref q_now, u_G_4, .ref q_past, .ref q_crossing, u_G_7, .ref q_tellers])), (q_sound, .inr (5, [u_sound_0, u_sound_1, u_sound_2, u_sound_3, u_sound_4, u_sound_5, .int 0, .int 0, .int 1, .int 0])), (q_now, .inr (6, [u_now_0, u_now_1, .ref q_now_shifted, u_now_3, .ref q_now_goes, .int 0, .int 0])), (q_now_goes, .inl (cI, 6, .inl f_now_goes)), (q_tape, .inr (7, [u_tape_0, .int 0])), (q_past, .inr (3, [u_past_0, u_past_1, .ref q_isHeld, u_past_3, .int 0])), (q_tellers, .inr (8, [u_tellers_0, u_tellers_1, u_tellers_2, u_tellers_3, u_tellers_4, u_tellers_5, u_tellers_6, .int 0])), (q_isHeld, .inl (cZ, 3, .inl f_isHeld)), (q_crossing, .inr (0, [.ref q_sound, u_crossing_1])), (q_now_shifted, .inl (cI, 5, .inl f_now_shifted))] := hD.sub [8, 9, 0, 1, 2, 3, 4, 5, 6, 7] (by decide) rfl
                exact q_iret C hr hlocks hK hP hD hS (Nat.le_of_ble_eq_true rfl) (Nat.le_of_ble_eq_true rfl) dX10_count_153 (by rw [e7]; decide +kernel)
              · skip
                by_cases e8 : x1 = 7
                · refine q_top (y := 7) e8 ?_
                  refine lv_tableIn (off := 153) (tgt := 154) hx hb dX10_count_1 (by decide +kernel) (by decide +kernel) (by decide +kernel) (by decide) ?_
                  refine lv_aload_n hx hb dX10_count_154 rfl (lv_at hl 0 rfl) ?_
                  refine q_get (v := .ref q_now) C inX10 hK hP 0 rfl rfl 3 (by decide) rfl L35 rfl dX10_count_155 ?_
                  refine q_getN (v := .ref q_now_goes) C hN inX6 hK hP 2 rfl rfl 4 (by decide) rfl nwF_X10_150 rfl dX10_count_158 ?_
                  refine q_goi (wr := [(q_G, .inr (10, [.ref q_tape, .ref q_sound, u_G_2, .ref q_now, u_G_4, .ref q_past, .ref q_crossing, u_G_7, .ref q_tellers])), (q_sound, .inr (5, [u_sound_0, u_sound_1, u_sound_2, u_sound_3, u_sound_4, u_sound_5, .int 0, .int 0, .int 1, .int 0])), (q_now, .inr (6, [u_now_0, u_now_1, .ref q_now_shifted, u_now_3, .ref q_now_goes, .int 0, .int 0])), (q_tape, .inr (7, [u_tape_0, .int 0])), (q_past, .inr (3, [u_past_0, u_past_1, .ref q_isHeld, u_past_3, .int 0])), (q_tellers, .inr (8, [u_tellers_0, u_tellers_1, u_tellers_2, u_tellers_3, u_tellers_4, u_tellers_5, u_tellers_6, .int 0])), (q_isHeld, .inl (cZ, 3, .inl f_isHeld)), (q_crossing, .inr (0, [.ref q_sound, u_crossing_1])), (q_now_shifted, .inl (cI, 5, .inl f_now_shifted))]) (va_runS (As := [.ref q_now_goes]) (rest := []) C (k_sumOf6 l dC dI cB cI cJ cZ cS (q_now_goes) (f_now_goes) h_now_goes_0 h_now_goes_1 h_now_goes_2 h_now_goes_3 h_now_goes_4 h_now_goes_5 _) (va_cwS 1 hts gX10_count_X10_sumOf rfl rfl rfl (by decide +kernel) ⟨Nat.le_of_ble_eq_true rfl, Nat.le_of_ble_eq_true rfl⟩) (q_pre hN hK hP hD [3] rfl (by decide)) rfl rfl hl.1 rfl (lv_room (Nat.le_of_ble_eq_true rfl)) dX10_count_161 ⟨Nat.le_of_ble_eq_true rfl, Nat.le_of_ble_eq_true rfl⟩) hP hD hS hA [3] [0, 1, 2, 4, 5, 6, 7, 8, 9] rfl rfl (by decide) (by decide) (fun r w1 H locs hw hP hD hS => ?_)
                  obtain ⟨rfl, rfl⟩ := hw
                  have hP : va_P (dC, dI) vwCl [(q_G, .inr (10, [.ref q_tape, .ref q_sound, u_G_2, .ref q_now, u_G_4, .ref q_past, .ref q_crossing, u_G_7, .ref q_tellers])), (q_sound, .inr (5, [u_sound_0, u_sound_1, u_sound_2, u_sound_3, u_sound_4, u_sound_5, .int 0, .int 0, .int 1, .int 0])), (q_now, .inr (6, [u_now_0, u_now_1, .ref q_now_shifted, u_now_3, .ref q_now_goes, .int 0, .int 0])), (q_now_goes, .inl (cI, 6, .inl f_now_goes)), (q_tape, .inr (7, [u_tape_0, .int 0])), (q_past, .inr (3, [u_past_0, u_past_1, .ref q_isHeld, u_past_3, .int 0])), (q_tellers, .inr (8, [u_tellers_0, u_tellers_1, u_tellers_2, u_tellers_3, u_tellers_4, u_tellers_5, u_tellers_6, .int 0])), (q_isHeld, .inl (cZ, 3, .inl f_isHeld)), (q_crossing, .inr (0, [.ref q_sound, u_crossing_1])), (q_now_shifted, .inl (cI, 5, .inl f_now_shifted))] H := hP.sub [0, 1, 2, 9, 3, 4, 5, 6, 7, 8] rfl
                  have hD : va_D A [(q_G, .inr (10, [.ref q_tape, .ref q_sound, u_G_2, .ref q_now, u_G_4, .ref q_past, .ref q_crossing, u_G_7, .ref q_tellers])), (q_sound, .inr (5, [u_sound_0, u_sound_1, u_sound_2, u_sound_3, u_sound_4, u_sound_5, .int 0, .int 0, .int 1, .int 0])), (q_now, .inr (6, [u_now_0, u_now_1, .ref q_now_shifted, u_now_3, .ref q_now_goes, .int 0, .int 0])), (q_now_goes, .inl (cI, 6, .inl f_now_goes)), (q_tape, .inr (7, [u_tape_0, .int 0])), (q_past, .inr (3, [u_past_0, u_past_1, .ref q_isHeld, u_past_3, .int 0])), (q_tellers, .inr (8, [u_tellers_0, u_tellers_1, u_tellers_2, u_tellers_3, u_tellers_4, u_tellers_5, u_tellers_6, .int 0])), (q_isHeld, .inl (cZ, 3, .inl f_isHeld)), (q_crossing, .inr (0, [.ref q_sound, u_crossing_1])), (q_now_shifted, .inl (cI, 5, .inl f_now_shifted))] := hD.sub [0, 1, 2, 9, 3, 4, 5, 6, 7, 8] (by decide) rfl
                  exact q_iret C hr hlocks hK hP hD hS (Nat.le_of_ble_eq_true rfl) (Nat.le_of_ble_eq_true rfl) dX10_count_164 (by rw [e8]; decide +kernel)
                · skip
                  by_cases e9 : x1 = 8
                  · refine q_top (y := 8) e9 ?_
                    refine lv_tableIn (off := 164) (tgt := 165) hx hb dX10_count_1 (by decide +kernel) (by decide +kernel) (by decide +kernel) (by decide) ?_
                    refine lv_aload_n hx hb dX10_count_165 rfl (lv_at hl 0 rfl) ?_
                    refine q_get (v := .ref q_tape) C inX10 hK hP 0 rfl rfl 0 (by decide) rfl L10 rfl dX10_count_166 ?_
                    refine q_getN (v := .int 0) C hN inX7 hK hP 4 rfl rfl 1 (by decide) rfl nwF_X10_85 rfl dX10_count_169 ?_
                    exact q_iret C hr hlocks hK hP hD hS (Nat.le_of_ble_eq_true rfl) (Nat.le_of_ble_eq_true rfl) dX10_count_172 (by rw [e9]; decide +kernel)
                  · skip
                    by_cases e10 : x1 = 9
                    · refine q_top (y := 9) e10 ?_
                      refine lv_tableIn (off := 172) (tgt := 173) hx hb dX10_count_1 (by decide +kernel) (by decide +kernel) (by decide +kernel) (by decide) ?_
                      refine lv_aload_n hx hb dX10_count_173 rfl (lv_at hl 0 rfl) ?_
                      refine q_get (v := .ref q_past) C inX10 hK hP 0 rfl rfl 5 (by decide) rfl L45 rfl dX10_count_174 ?_
                      refine q_getN (v := .int 0) C hN inX3 hK hP 5 rfl rfl 4 (by decide) rfl nwF_X10_293 rfl dX10_count_177 ?_
                      exact q_iret C hr hlocks hK hP hD hS (Nat.le_of_ble_eq_true rfl) (Nat.le_of_ble_eq_true rfl) dX10_count_180 (by rw [e10]; decide +kernel)
                    · skip
                      by_cases e11 : x1 = 10
                      · refine q_top (y := 10) e11 ?_
                        refine lv_tableIn (off := 180) (tgt := 181) hx hb dX10_count_1 (by decide +kernel) (by decide +kernel) (by decide +kernel) (by decide) ?_
                        refine lv_aload_n hx hb dX10_count_181 rfl (lv_at hl 0 rfl) ?_
                        refine q_get (v := .ref q_tellers) C inX10 hK hP 0 rfl rfl 8 (by decide) rfl L70 rfl dX10_count_182 ?_
                        refine q_getN (v := .int 0) C hN inX8 hK hP 6 rfl rfl 7 (by decide) rfl nwF_X10_102 rfl dX10_count_185 ?_
                        exact q_iret C hr hlocks hK hP hD hS (Nat.le_of_ble_eq_true rfl) (Nat.le_of_ble_eq_true rfl) dX10_count_188 (by rw [e11]; decide +kernel)
                      · skip
                        by_cases e12 : x1 = 11
                        · refine q_top (y := 11) e12 ?_
                          refine lv_tableIn (off := 188) (tgt := 189) hx hb dX10_count_1 (by decide +kernel) (by decide +kernel) (by decide +kernel) (by decide) ?_
                          refine lv_aload_n hx hb dX10_count_189 rfl (lv_at hl 0 rfl) ?_
                          refine q_get (v := .ref q_past) C inX10 hK hP 0 rfl rfl 5 (by decide) rfl L45 rfl dX10_count_190 ?_
                          refine q_goi (wr := [(q_G, .inr (10, [.ref q_tape, .ref q_sound, u_G_2, .ref q_now, u_G_4, .ref q_past, .ref q_crossing, u_G_7, .ref q_tellers])), (q_sound, .inr (5, [u_sound_0, u_sound_1, u_sound_2, u_sound_3, u_sound_4, u_sound_5, .int 0, .int 0, .int 1, .int 0])), (q_now, .inr (6, [u_now_0, u_now_1, .ref q_now_shifted, u_now_3, .ref q_now_goes, .int 0, .int 0])), (q_now_goes, .inl (cI, 6, .inl f_now_goes)), (q_tape, .inr (7, [u_tape_0, .int 0])), (q_tellers, .inr (8, [u_tellers_0, u_tellers_1, u_tellers_2, u_tellers_3, u_tellers_4, u_tellers_5, u_tellers_6, .int 0])), (q_crossing, .inr (0, [.ref q_sound, u_crossing_1])), (q_now_shifted, .inl (cI, 5, .inl f_now_shifted))]) (va_runVN (As := []) (rest := []) C (k_X3_slotsHeld l dC dI cB cI cJ cZ cS (q_past) (q_isHeld) (u_past_0) (u_past_1) (u_past_3) (.int 0) (f_isHeld) h_isHeld_0 h_isHeld_1 h_isHeld_2 _) ⟨va_cnB 0 hts gX10_count_X3_slotsHeld_n296 rfl rfl rfl (hN _ nwM_X10_296 rfl) (hts _ I_X3) (by decide +kernel) ⟨Nat.le_of_ble_eq_true rfl, Nat.le_of_ble_eq_true rfl⟩, hts _ N_X3_slotsHeld, hts _ E_X3_slotsHeld⟩ (q_preV hK hP (ci := 3) (q0 := 5) rfl rfl rfl (q_pre hN hK hP hD [5, 7] rfl (by decide))) rfl rfl hl.1 rfl (lv_room (Nat.le_of_ble_eq_true rfl)) dX10_count_193 ⟨Nat.le_of_ble_eq_true rfl, Nat.le_of_ble_eq_true rfl⟩) hP hD hS hA [5, 7] [0, 1, 2, 3, 4, 6, 8, 9] rfl rfl (by decide) (by decide) (fun r w1 H locs hw hP hD hS => ?_)
                          obtain ⟨rfl, rfl⟩ := hw
                          have hP : va_P (dC, dI) vwCl [(q_G, .inr (10, [.ref q_tape, .ref q_sound, u_G_2, .ref q_now, u_G_4, .ref q_past, .ref q_crossing, u_G_7, .ref q_tellers])), (q_sound, .inr (5, [u_sound_0, u_sound_1, u_sound_2, u_sound_3, u_sound_4, u_sound_5, .int 0, .int 0, .int 1, .int 0])), (q_now, .inr (6, [u_now_0, u_now_1, .ref q_now_shifted, u_now_3, .ref q_now_goes, .int 0, .int 0])), (q_now_goes, .inl (cI, 6, .inl f_now_goes)), (q_tape, .inr (7, [u_tape_0, .int 0])), (q_past, .inr (3, [u_past_0, u_past_1, .ref q_isHeld, u_past_3, .int 0])), (q_tellers, .inr (8, [u_tellers_0, u_tellers_1, u_tellers_2, u_tellers_3, u_tellers_4, u_tellers_5, u_tellers_6, .int 0])), (q_isHeld, .inl (cZ, 3, .inl f_isHeld)), (q_crossing, .inr (0, [.ref q_sound, u_crossing_1])), (q_now_shifted, .inl (cI, 5, .inl f_now_shifted))] H := hP.sub [0, 1, 2, 3, 4, 8, 5, 9, 6, 7] rfl
                          have hD : va_D A [(q_G, .inr (10, [.ref q_tape, .ref q_sound, u_G_2, .ref q_now, u_G_4, .ref q_past, .ref q_crossing, u_G_7, .ref q_tellers])), (q_sound, .inr (5, [u_sound_0, u_sound_1, u_sound_2, u_sound_3, u_sound_4, u_sound_5, .int 0, .int 0, .int 1, .int 0])), (q_now, .inr (6, [u_now_0, u_now_1, .ref q_now_shifted, u_now_3, .ref q_now_goes, .int 0, .int 0])), (q_now_goes, .inl (cI, 6, .inl f_now_goes)), (q_tape, .inr (7, [u_tape_0, .int 0])), (q_past, .inr (3, [u_past_0, u_past_1, .ref q_isHeld, u_past_3, .int 0])), (q_tellers, .inr (8, [u_tellers_0, u_tellers_1, u_tellers_2, u_tellers_3, u_tellers_4, u_tellers_5, u_tellers_6, .int 0])), (q_isHeld, .inl (cZ, 3, .inl f_isHeld)), (q_crossing, .inr (0, [.ref q_sound, u_crossing_1])), (q_now_shifted, .inl (cI, 5, .inl f_now_shifted))] := hD.sub [0, 1, 2, 3, 4, 8, 5, 9, 6, 7] (by decide) rfl
                          exact q_iret C hr hlocks hK hP hD hS (Nat.le_of_ble_eq_true rfl) (Nat.le_of_ble_eq_true rfl) dX10_count_196 (by rw [e12]; decide +kernel)
                        · skip
                          by_cases e13 : x1 = 12
                          · refine q_top (y := 12) e13 ?_
                            refine lv_tableIn (off := 196) (tgt := 197) hx hb dX10_count_1 (by decide +kernel) (by decide +kernel) (by decide +kernel) (by decide) ?_
                            refine lv_aload_n hx hb dX10_count_197 rfl (lv_at hl 0 rfl) ?_
                            refine q_goi (wr := [(q_now, .inr (6, [u_now_0, u_now_1, .ref q_now_shifted, u_now_3, .ref q_now_goes, .int 0, .int 0])), (q_now_goes, .inl (cI, 6, .inl f_now_goes)), (q_tape, .inr (7, [u_tape_0, .int 0])), (q_past, .inr (3, [u_past_0, u_past_1, .ref q_isHeld, u_past_3, .int 0])), (q_tellers, .inr (8, [u_tellers_0, u_tellers_1, u_tellers_2, u_tellers_3, u_tellers_4, u_tellers_5, u_tellers_6, .int 0])), (q_isHeld, .inl (cZ, 3, .inl f_isHeld)), (q_crossing, .inr (0, [.ref q_sound, u_crossing_1])), (q_now_shifted, .inl (cI, 5, .inl f_now_shifted))]) (va_runV (As := []) (rest := []) C (k_X10_buoysLying l dC dI cB cI cJ cZ cS (q_G) (q_sound) (.ref q_tape) (u_G_2) (.ref q_now) (u_G_4) (.ref q_past) (.ref q_crossing) (u_G_7) (.ref q_tellers) (u_sound_0) (u_sound_1) (u_sound_2) (u_sound_3) (u_sound_4) (u_sound_5) (.int 0) (.int 1) (.int 0) _) (cwV 0 hts gX10_count_X10_buoysLying rfl rfl rfl (by decide +kernel) ⟨Nat.le_of_ble_eq_true rfl, Nat.le_of_ble_eq_true rfl⟩) (q_preV hK hP (ci := 10) (q0 := 0) rfl rfl rfl (q_pre hN hK hP hD [0, 1] rfl (by decide))) rfl rfl hl.1 rfl (lv_room (Nat.le_of_ble_eq_true rfl)) dX10_count_198 ⟨Nat.le_of_ble_eq_true rfl, Nat.le_of_ble_eq_true rfl⟩) hP hD hS hA [0, 1] [2, 3, 4, 5, 6, 7, 8, 9] rfl rfl (by decide) (by decide) (fun r w1 H locs hw hP hD hS => ?_)
                            obtain ⟨rfl, rfl⟩ := hw
                            have hP : va_P (dC, dI) vwCl [(q_G, .inr (10, [.ref q_tape, .ref q_sound, u_G_2, .ref q_now, u_G_4, .ref q_past, .ref q_crossing, u_G_7, .ref q_tellers])), (q_sound, .inr (5, [u_sound_0, u_sound_1, u_sound_2, u_sound_3, u_sound_4, u_sound_5, .int 0, .int 0, .int 1, .int 0])), (q_now, .inr (6, [u_now_0, u_now_1, .ref q_now_shifted, u_now_3, .ref q_now_goes, .int 0, .int 0])), (q_now_goes, .inl (cI, 6, .inl f_now_goes)), (q_tape, .inr (7, [u_tape_0, .int 0])), (q_past, .inr (3, [u_past_0, u_past_1, .ref q_isHeld, u_past_3, .int 0])), (q_tellers, .inr (8, [u_tellers_0, u_tellers_1, u_tellers_2, u_tellers_3, u_tellers_4, u_tellers_5, u_tellers_6, .int 0])), (q_isHeld, .inl (cZ, 3, .inl f_isHeld)), (q_crossing, .inr (0, [.ref q_sound, u_crossing_1])), (q_now_shifted, .inl (cI, 5, .inl f_now_shifted))] H := hP.sub [8, 9, 0, 1, 2, 3, 4, 5, 6, 7] rfl
                            have hD : va_D A [(q_G, .inr (10, [.ref q_tape, .ref q_sound, u_G_2, .ref q_now, u_G_4, .ref q_past, .ref q_crossing, u_G_7, .ref q_tellers])), (q_sound, .inr (5, [u_sound_0, u_sound_1, u_sound_2, u_sound_3, u_sound_4, u_sound_5, .int 0, .int 0, .int 1, .int 0])), (q_now, .inr (6, [u_now_0, u_now_1, .ref q_now_shifted, u_now_3, .ref q_now_goes, .int 0, .int 0])), (q_now_goes, .inl (cI, 6, .inl f_now_goes)), (q_tape, .inr (7, [u_tape_0, .int 0])), (q_past, .inr (3, [u_past_0, u_past_1, .ref q_isHeld, u_past_3, .int 0])), (q_tellers, .inr (8, [u_tellers_0, u_tellers_1, u_tellers_2, u_tellers_3, u_tellers_4, u_tellers_5, u_tellers_6, .int 0])), (q_isHeld, .inl (cZ, 3, .inl f_isHeld)), (q_crossing, .inr (0, [.ref q_sound, u_crossing_1])), (q_now_shifted, .inl (cI, 5, .inl f_now_shifted))] := hD.sub [8, 9, 0, 1, 2, 3, 4, 5, 6, 7] (by decide) rfl
                            exact q_iret C hr hlocks hK hP hD hS (Nat.le_of_ble_eq_true rfl) (Nat.le_of_ble_eq_true rfl) dX10_count_201 (by rw [e13]; decide +kernel)
                          · skip
                            by_cases e14 : x1 = 13
                            · refine q_top (y := 13) e14 ?_
                              refine lv_tableIn (off := 201) (tgt := 202) hx hb dX10_count_1 (by decide +kernel) (by decide +kernel) (by decide +kernel) (by decide) ?_
                              refine lv_aload_n hx hb dX10_count_202 rfl (lv_at hl 0 rfl) ?_
                              refine q_goi (wr := [(q_now, .inr (6, [u_now_0, u_now_1, .ref q_now_shifted, u_now_3, .ref q_now_goes, .int 0, .int 0])), (q_now_goes, .inl (cI, 6, .inl f_now_goes)), (q_tape, .inr (7, [u_tape_0, .int 0])), (q_past, .inr (3, [u_past_0, u_past_1, .ref q_isHeld, u_past_3, .int 0])), (q_tellers, .inr (8, [u_tellers_0, u_tellers_1, u_tellers_2, u_tellers_3, u_tellers_4, u_tellers_5, u_tellers_6, .int 0])), (q_isHeld, .inl (cZ, 3, .inl f_isHeld)), (q_crossing, .inr (0, [.ref q_sound, u_crossing_1])), (q_now_shifted, .inl (cI, 5, .inl f_now_shifted))]) (va_runV (As := []) (rest := []) C (k_X10_wavesFound l dC dI cB cI cJ cZ cS (q_G) (q_sound) (.ref q_tape) (u_G_2) (.ref q_now) (u_G_4) (.ref q_past) (.ref q_crossing) (u_G_7) (.ref q_tellers) (u_sound_0) (u_sound_1) (u_sound_2) (u_sound_3) (u_sound_4) (u_sound_5) (.int 0) (.int 1) (.int 0) _) (cwV 0 hts gX10_count_X10_wavesFound rfl rfl rfl (by decide +kernel) ⟨Nat.le_of_ble_eq_true rfl, Nat.le_of_ble_eq_true rfl⟩) (q_preV hK hP (ci := 10) (q0 := 0) rfl rfl rfl (q_pre hN hK hP hD [0, 1] rfl (by decide))) rfl rfl hl.1 rfl (lv_room (Nat.le_of_ble_eq_true rfl)) dX10_count_203 ⟨Nat.le_of_ble_eq_true rfl, Nat.le_of_ble_eq_true rfl⟩) hP hD hS hA [0, 1] [2, 3, 4, 5, 6, 7, 8, 9] rfl rfl (by decide) (by decide) (fun r w1 H locs hw hP hD hS => ?_)
                              obtain ⟨rfl, rfl⟩ := hw
                              have hP : va_P (dC, dI) vwCl [(q_G, .inr (10, [.ref q_tape, .ref q_sound, u_G_2, .ref q_now, u_G_4, .ref q_past, .ref q_crossing, u_G_7, .ref q_tellers])), (q_sound, .inr (5, [u_sound_0, u_sound_1, u_sound_2, u_sound_3, u_sound_4, u_sound_5, .int 0, .int 0, .int 1, .int 0])), (q_now, .inr (6, [u_now_0, u_now_1, .ref q_now_shifted, u_now_3, .ref q_now_goes, .int 0, .int 0])), (q_now_goes, .inl (cI, 6, .inl f_now_goes)), (q_tape, .inr (7, [u_tape_0, .int 0])), (q_past, .inr (3, [u_past_0, u_past_1, .ref q_isHeld, u_past_3, .int 0])), (q_tellers, .inr (8, [u_tellers_0, u_tellers_1, u_tellers_2, u_tellers_3, u_tellers_4, u_tellers_5, u_tellers_6, .int 0])), (q_isHeld, .inl (cZ, 3, .inl f_isHeld)), (q_crossing, .inr (0, [.ref q_sound, u_crossing_1])), (q_now_shifted, .inl (cI, 5, .inl f_now_shifted))] H := hP.sub [8, 9, 0, 1, 2, 3, 4, 5, 6, 7] rfl
                              have hD : va_D A [(q_G, .inr (10, [.ref q_tape, .ref q_sound, u_G_2, .ref q_now, u_G_4, .ref q_past, .ref q_crossing, u_G_7, .ref q_tellers])), (q_sound, .inr (5, [u_sound_0, u_sound_1, u_sound_2, u_sound_3, u_sound_4, u_sound_5, .int 0, .int 0, .int 1, .int 0])), (q_now, .inr (6, [u_now_0, u_now_1, .ref q_now_shifted, u_now_3, .ref q_now_goes, .int 0, .int 0])), (q_now_goes, .inl (cI, 6, .inl f_now_goes)), (q_tape, .inr (7, [u_tape_0, .int 0])), (q_past, .inr (3, [u_past_0, u_past_1, .ref q_isHeld, u_past_3, .int 0])), (q_tellers, .inr (8, [u_tellers_0, u_tellers_1, u_tellers_2, u_tellers_3, u_tellers_4, u_tellers_5, u_tellers_6, .int 0])), (q_isHeld, .inl (cZ, 3, .inl f_isHeld)), (q_crossing, .inr (0, [.ref q_sound, u_crossing_1])), (q_now_shifted, .inl (cI, 5, .inl f_now_shifted))] := hD.sub [8, 9, 0, 1, 2, 3, 4, 5, 6, 7] (by decide) rfl
                              exact q_iret C hr hlocks hK hP hD hS (Nat.le_of_ble_eq_true rfl) (Nat.le_of_ble_eq_true rfl) dX10_count_206 (by rw [e14]; decide +kernel)
                            · skip
                              by_cases e15 : x1 = 14
                              · refine q_top (y := 14) e15 ?_
                                refine lv_tableIn (off := 206) (tgt := 207) hx hb dX10_count_1 (by decide +kernel) (by decide +kernel) (by decide +kernel) (by decide) ?_
                                refine lv_aload_n hx hb dX10_count_207 rfl (lv_at hl 0 rfl) ?_
                                refine q_get (v := .ref q_sound) C inX10 hK hP 0 rfl rfl 1 (by decide) rfl L19 rfl dX10_count_208 ?_
                                refine q_getN (v := .int 1) C hN inX5 hK hP 1 rfl rfl 8 (by decide) rfl nwF_X10_305 rfl dX10_count_211 ?_
                                exact q_iret C hr hlocks hK hP hD hS (Nat.le_of_ble_eq_true rfl) (Nat.le_of_ble_eq_true rfl) dX10_count_214 (by rw [e15]; decide +kernel)
                              · skip
                                by_cases e16 : x1 = 15
                                · refine q_top (y := 15) e16 ?_
                                  refine lv_tableIn (off := 214) (tgt := 215) hx hb dX10_count_1 (by decide +kernel) (by decide +kernel) (by decide +kernel) (by decide) ?_
                                  refine lv_aload_n hx hb dX10_count_215 rfl (lv_at hl 0 rfl) ?_
                                  refine q_get (v := .ref q_crossing) C inX10 hK hP 0 rfl rfl 6 (by decide) rfl L54 rfl dX10_count_216 ?_
                                  refine lv_aload_n hx hb dX10_count_219 rfl (lv_at hl 0 rfl) ?_
                                  refine q_get (v := .ref q_now) C inX10 hK hP 0 rfl rfl 3 (by decide) rfl L35 rfl dX10_count_220 ?_
                                  refine lv_aload_n hx hb dX10_count_223 rfl (lv_at hl 0 rfl) ?_
                                  refine q_get (v := .ref q_sound) C inX10 hK hP 0 rfl rfl 1 (by decide) rfl L19 rfl dX10_count_224 ?_
                                  refine q_getN (v := .int 0) C hN inX5 hK hP 1 rfl rfl 9 (by decide) rfl nwF_X10_253 rfl dX10_count_227 ?_
                                  refine q_goi (wr := [(q_G, .inr (10, [.ref q_tape, .ref q_sound, u_G_2, .ref q_now, u_G_4, .ref q_past, .ref q_crossing, u_G_7, .ref q_tellers])), (q_now, .inr (6, [u_now_0, u_now_1, .ref q_now_shifted, u_now_3, .ref q_now_goes, .int 0, .int 0])), (q_now_goes, .inl (cI, 6, .inl f_now_goes)), (q_tape, .inr (7, [u_tape_0, .int 0])), (q_past, .inr (3, [u_past_0, u_past_1, .ref q_isHeld, u_past_3, .int 0])), (q_tellers, .inr (8, [u_tellers_0, u_tellers_1, u_tellers_2, u_tellers_3, u_tellers_4, u_tellers_5, u_tellers_6, .int 0])), (q_isHeld, .inl (cZ, 3, .inl f_isHeld)), (q_now_shifted, .inl (cI, 5, .inl f_now_shifted))]) (va_runVN (As := [.ref q_now, .int 0]) (rest := []) C (k_X0_guessThere l dC dI cB cI cJ cZ cS (q_sound) (q_now) (q_crossing) (u_crossing_1) (u_sound_0) (u_sound_1) (u_sound_2) (u_sound_3) (u_sound_4) (u_sound_5) (.int 0) (.int 1) (.int 0) 0 _) ⟨va_cnB 2 hts gX10_count_X0_guessThere_n256 rfl rfl rfl (hN _ nwM_X10_256 rfl) (hts _ I_X0) (by decide +kernel) ⟨Nat.le_of_ble_eq_true rfl, Nat.le_of_ble_eq_true rfl⟩, hts _ N_X0_guessThere, hts _ E_X0_guessThere⟩ (q_preV hK hP (ci := 0) (q0 := 8) rfl rfl rfl (q_pre hN hK hP hD [8, 1] rfl (by decide))) rfl rfl hl.1 rfl (lv_room (Nat.le_of_ble_eq_true rfl)) dX10_count_230 ⟨Nat.le_of_ble_eq_true rfl, Nat.le_of_ble_eq_true rfl⟩) hP hD hS hA [8, 1] [0, 2, 3, 4, 5, 6, 7, 9] rfl rfl (by decide) (by decide) (fun r w1 H locs hw hP hD hS => ?_)
                                  obtain ⟨rfl, rfl⟩ := hw
                                  have hP : va_P (dC, dI) vwCl [(q_G, .inr (10, [.ref q_tape, .ref q_sound, u_G_2, .ref q_now, u_G_4, .ref q_past, .ref q_crossing, u_G_7, .ref q_tellers])), (q_sound, .inr (5, [u_sound_0, u_sound_1, u_sound_2, u_sound_3, u_sound_4, u_sound_5, .int 0, .int 0, .int 1, .int 0])), (q_now, .inr (6, [u_now_0, u_now_1, .ref q_now_shifted, u_now_3, .ref q_now_goes, .int 0, .int 0])), (q_now_goes, .inl (cI, 6, .inl f_now_goes)), (q_tape, .inr (7, [u_tape_0, .int 0])), (q_past, .inr (3, [u_past_0, u_past_1, .ref q_isHeld, u_past_3, .int 0])), (q_tellers, .inr (8, [u_tellers_0, u_tellers_1, u_tellers_2, u_tellers_3, u_tellers_4, u_tellers_5, u_tellers_6, .int 0])), (q_isHeld, .inl (cZ, 3, .inl f_isHeld)), (q_crossing, .inr (0, [.ref q_sound, u_crossing_1])), (q_now_shifted, .inl (cI, 5, .inl f_now_shifted))] H := hP.sub [0, 9, 1, 2, 3, 4, 5, 6, 8, 7] rfl
                                  have hD : va_D A [(q_G, .inr (10, [.ref q_tape, .ref q_sound, u_G_2, .ref q_now, u_G_4, .ref q_past, .ref q_crossing, u_G_7, .ref q_tellers])), (q_sound, .inr (5, [u_sound_0, u_sound_1, u_sound_2, u_sound_3, u_sound_4, u_sound_5, .int 0, .int 0, .int 1, .int 0])), (q_now, .inr (6, [u_now_0, u_now_1, .ref q_now_shifted, u_now_3, .ref q_now_goes, .int 0, .int 0])), (q_now_goes, .inl (cI, 6, .inl f_now_goes)), (q_tape, .inr (7, [u_tape_0, .int 0])), (q_past, .inr (3, [u_past_0, u_past_1, .ref q_isHeld, u_past_3, .int 0])), (q_tellers, .inr (8, [u_tellers_0, u_tellers_1, u_tellers_2, u_tellers_3, u_tellers_4, u_tellers_5, u_tellers_6, .int 0])), (q_isHeld, .inl (cZ, 3, .inl f_isHeld)), (q_crossing, .inr (0, [.ref q_sound, u_crossing_1])), (q_now_shifted, .inl (cI, 5, .inl f_now_shifted))] := hD.sub [0, 9, 1, 2, 3, 4, 5, 6, 8, 7] (by decide) rfl
                                  exact q_iret C hr hlocks hK hP hD hS (Nat.le_of_ble_eq_true rfl) (Nat.le_of_ble_eq_true rfl) dX10_count_233 (by rw [e16]; decide +kernel)
                                · skip
                                  by_cases e17 : x1 = 16
                                  · refine q_top (y := 16) e17 ?_
                                    refine lv_tableIn (off := 233) (tgt := 234) hx hb dX10_count_1 (by decide +kernel) (by decide +kernel) (by decide +kernel) (by decide) ?_
                                    refine lv_aload_n hx hb dX10_count_234 rfl (lv_at hl 0 rfl) ?_
                                    refine q_get (v := .ref q_now) C inX10 hK hP 0 rfl rfl 3 (by decide) rfl L35 rfl dX10_count_235 ?_
                                    refine q_getN (v := .ref q_now_shifted) C hN inX6 hK hP 2 rfl rfl 2 (by decide) rfl nwF_X10_122 rfl dX10_count_238 ?_
                                    refine q_goi (wr := [(q_G, .inr (10, [.ref q_tape, .ref q_sound, u_G_2, .ref q_now, u_G_4, .ref q_past, .ref q_crossing, u_G_7, .ref q_tellers])), (q_sound, .inr (5, [u_sound_0, u_sound_1, u_sound_2, u_sound_3, u_sound_4, u_sound_5, .int 0, .int 0, .int 1, .int 0])), (q_now, .inr (6, [u_now_0, u_now_1, .ref q_now_shifted, u_now_3, .ref q_now_goes, .int 0, .int 0])), (q_now_goes, .inl (cI, 6, .inl f_now_goes)), (q_tape, .inr (7, [u_tape_0, .int 0])), (q_past, .inr (3, [u_past_0, u_past_1, .ref q_isHeld, u_past_3, .int 0])), (q_tellers, .inr (8, [u_tellers_0, u_tellers_1, u_tellers_2, u_tellers_3, u_tellers_4, u_tellers_5, u_tellers_6, .int 0])), (q_isHeld, .inl (cZ, 3, .inl f_isHeld)), (q_crossing, .inr (0, [.ref q_sound, u_crossing_1]))]) (va_runS (As := [.ref q_now_shifted]) (rest := []) C (k_sumOf5 l dC dI cB cI cJ cZ cS (q_now_shifted) (f_now_shifted) h_now_shifted_0 h_now_shifted_1 h_now_shifted_2 h_now_shifted_3 h_now_shifted_4 _) (va_cwS 1 hts gX10_count_X10_sumOf rfl rfl rfl (by decide +kernel) ⟨Nat.le_of_ble_eq_true rfl, Nat.le_of_ble_eq_true rfl⟩) (q_pre hN hK hP hD [9] rfl (by decide)) rfl rfl hl.1 rfl (lv_room (Nat.le_of_ble_eq_true rfl)) dX10_count_241 ⟨Nat.le_of_ble_eq_true rfl, Nat.le_of_ble_eq_true rfl⟩) hP hD hS hA [9] [0, 1, 2, 3, 4, 5, 6, 7, 8] rfl rfl (by decide) (by decide) (fun r w1 H locs hw hP hD hS => ?_)
                                    obtain ⟨rfl, rfl⟩ := hw
                                    have hP : va_P (dC, dI) vwCl [(q_G, .inr (10, [.ref q_tape, .ref q_sound, u_G_2, .ref q_now, u_G_4, .ref q_past, .ref q_crossing, u_G_7, .ref q_tellers])), (q_sound, .inr (5, [u_sound_0, u_sound_1, u_sound_2, u_sound_3, u_sound_4, u_sound_5, .int 0, .int 0, .int 1, .int 0])), (q_now, .inr (6, [u_now_0, u_now_1, .ref q_now_shifted, u_now_3, .ref q_now_goes, .int 0, .int 0])), (q_now_goes, .inl (cI, 6, .inl f_now_goes)), (q_tape, .inr (7, [u_tape_0, .int 0])), (q_past, .inr (3, [u_past_0, u_past_1, .ref q_isHeld, u_past_3, .int 0])), (q_tellers, .inr (8, [u_tellers_0, u_tellers_1, u_tellers_2, u_tellers_3, u_tellers_4, u_tellers_5, u_tellers_6, .int 0])), (q_isHeld, .inl (cZ, 3, .inl f_isHeld)), (q_crossing, .inr (0, [.ref q_sound, u_crossing_1])), (q_now_shifted, .inl (cI, 5, .inl f_now_shifted))] H := hP.sub [0, 1, 2, 3, 4, 5, 6, 7, 8, 9] rfl
                                    have hD : va_D A [(q_G, .inr (10, [.ref q_tape, .ref q_sound, u_G_2, .ref q_now, u_G_4, .ref q_past, .ref q_crossing, u_G_7, .ref q_tellers])), (q_sound, .inr (5, [u_sound_0, u_sound_1, u_sound_2, u_sound_3, u_sound_4, u_sound_5, .int 0, .int 0, .int 1, .int 0])), (q_now, .inr (6, [u_now_0, u_now_1, .ref q_now_shifted, u_now_3, .ref q_now_goes, .int 0, .int 0])), (q_now_goes, .inl (cI, 6, .inl f_now_goes)), (q_tape, .inr (7, [u_tape_0, .int 0])), (q_past, .inr (3, [u_past_0, u_past_1, .ref q_isHeld, u_past_3, .int 0])), (q_tellers, .inr (8, [u_tellers_0, u_tellers_1, u_tellers_2, u_tellers_3, u_tellers_4, u_tellers_5, u_tellers_6, .int 0])), (q_isHeld, .inl (cZ, 3, .inl f_isHeld)), (q_crossing, .inr (0, [.ref q_sound, u_crossing_1])), (q_now_shifted, .inl (cI, 5, .inl f_now_shifted))] := hD.sub [0, 1, 2, 3, 4, 5, 6, 7, 8, 9] (by decide) rfl
                                    exact q_iret C hr hlocks hK hP hD hS (Nat.le_of_ble_eq_true rfl) (Nat.le_of_ble_eq_true rfl) dX10_count_244 (by rw [e17]; decide +kernel)
                                  · skip
                                    by_cases e18 : x1 = 17
                                    · refine q_top (y := 17) e18 ?_
                                      refine lv_tableIn (off := 244) (tgt := 245) hx hb dX10_count_1 (by decide +kernel) (by decide +kernel) (by decide +kernel) (by decide) ?_
                                      refine lv_aload_n hx hb dX10_count_245 rfl (lv_at hl 0 rfl) ?_
                                      refine q_goi (wr := [(q_now, .inr (6, [u_now_0, u_now_1, .ref q_now_shifted, u_now_3, .ref q_now_goes, .int 0, .int 0])), (q_now_goes, .inl (cI, 6, .inl f_now_goes)), (q_tape, .inr (7, [u_tape_0, .int 0])), (q_past, .inr (3, [u_past_0, u_past_1, .ref q_isHeld, u_past_3, .int 0])), (q_tellers, .inr (8, [u_tellers_0, u_tellers_1, u_tellers_2, u_tellers_3, u_tellers_4, u_tellers_5, u_tellers_6, .int 0])), (q_isHeld, .inl (cZ, 3, .inl f_isHeld)), (q_crossing, .inr (0, [.ref q_sound, u_crossing_1])), (q_now_shifted, .inl (cI, 5, .inl f_now_shifted))]) (va_runV (As := []) (rest := []) C (k_X10_wavesWithNothing l dC dI cB cI cJ cZ cS (q_G) (q_sound) (.ref q_tape) (u_G_2) (.ref q_now) (u_G_4) (.ref q_past) (.ref q_crossing) (u_G_7) (.ref q_tellers) (u_sound_0) (u_sound_1) (u_sound_2) (u_sound_3) (u_sound_4) (u_sound_5) (.int 0) (.int 1) (.int 0) _) (cwV 0 hts gX10_count_X10_wavesWithNothing rfl rfl rfl (by decide +kernel) ⟨Nat.le_of_ble_eq_true rfl, Nat.le_of_ble_eq_true rfl⟩) (q_preV hK hP (ci := 10) (q0 := 0) rfl rfl rfl (q_pre hN hK hP hD [0, 1] rfl (by decide))) rfl rfl hl.1 rfl (lv_room (Nat.le_of_ble_eq_true rfl)) dX10_count_246 ⟨Nat.le_of_ble_eq_true rfl, Nat.le_of_ble_eq_true rfl⟩) hP hD hS hA [0, 1] [2, 3, 4, 5, 6, 7, 8, 9] rfl rfl (by decide) (by decide) (fun r w1 H locs hw hP hD hS => ?_)
                                      obtain ⟨rfl, rfl⟩ := hw
                                      have hP : va_P (dC, dI) vwCl [(q_G, .inr (10, [.ref q_tape, .ref q_sound, u_G_2, .ref q_now, u_G_4, .ref q_past, .ref q_crossing, u_G_7, .ref q_tellers])), (q_sound, .inr (5, [u_sound_0, u_sound_1, u_sound_2, u_sound_3, u_sound_4, u_sound_5, .int 0, .int 0, .int 1, .int 0])), (q_now, .inr (6, [u_now_0, u_now_1, .ref q_now_shifted, u_now_3, .ref q_now_goes, .int 0, .int 0])), (q_now_goes, .inl (cI, 6, .inl f_now_goes)), (q_tape, .inr (7, [u_tape_0, .int 0])), (q_past, .inr (3, [u_past_0, u_past_1, .ref q_isHeld, u_past_3, .int 0])), (q_tellers, .inr (8, [u_tellers_0, u_tellers_1, u_tellers_2, u_tellers_3, u_tellers_4, u_tellers_5, u_tellers_6, .int 0])), (q_isHeld, .inl (cZ, 3, .inl f_isHeld)), (q_crossing, .inr (0, [.ref q_sound, u_crossing_1])), (q_now_shifted, .inl (cI, 5, .inl f_now_shifted))] H := hP.sub [8, 9, 0, 1, 2, 3, 4, 5, 6, 7] rfl
                                      have hD : va_D A [(q_G, .inr (10, [.ref q_tape, .ref q_sound, u_G_2, .ref q_now, u_G_4, .ref q_past, .ref q_crossing, u_G_7, .ref q_tellers])), (q_sound, .inr (5, [u_sound_0, u_sound_1, u_sound_2, u_sound_3, u_sound_4, u_sound_5, .int 0, .int 0, .int 1, .int 0])), (q_now, .inr (6, [u_now_0, u_now_1, .ref q_now_shifted, u_now_3, .ref q_now_goes, .int 0, .int 0])), (q_now_goes, .inl (cI, 6, .inl f_now_goes)), (q_tape, .inr (7, [u_tape_0, .int 0])), (q_past, .inr (3, [u_past_0, u_past_1, .ref q_isHeld, u_past_3, .int 0])), (q_tellers, .inr (8, [u_tellers_0, u_tellers_1, u_tellers_2, u_tellers_3, u_tellers_4, u_tellers_5, u_tellers_6, .int 0])), (q_isHeld, .inl (cZ, 3, .inl f_isHeld)), (q_crossing, .inr (0, [.ref q_sound, u_crossing_1])), (q_now_shifted, .inl (cI, 5, .inl f_now_shifted))] := hD.sub [8, 9, 0, 1, 2, 3, 4, 5, 6, 7] (by decide) rfl
                                      exact q_iret C hr hlocks hK hP hD hS (Nat.le_of_ble_eq_true rfl) (Nat.le_of_ble_eq_true rfl) dX10_count_249 (by rw [e18]; decide +kernel)
                                    · skip
                                      by_cases e19 : x1 = 18
                                      · refine q_top (y := 18) e19 ?_
                                        refine lv_tableIn (off := 249) (tgt := 250) hx hb dX10_count_1 (by decide +kernel) (by decide +kernel) (by decide +kernel) (by decide) ?_
                                        refine lv_aload_n hx hb dX10_count_250 rfl (lv_at hl 0 rfl) ?_
                                        refine q_goi (wr := [(q_now, .inr (6, [u_now_0, u_now_1, .ref q_now_shifted, u_now_3, .ref q_now_goes, .int 0, .int 0])), (q_now_goes, .inl (cI, 6, .inl f_now_goes)), (q_tape, .inr (7, [u_tape_0, .int 0])), (q_past, .inr (3, [u_past_0, u_past_1, .ref q_isHeld, u_past_3, .int 0])), (q_tellers, .inr (8, [u_tellers_0, u_tellers_1, u_tellers_2, u_tellers_3, u_tellers_4, u_tellers_5, u_tellers_6, .int 0])), (q_isHeld, .inl (cZ, 3, .inl f_isHeld)), (q_crossing, .inr (0, [.ref q_sound, u_crossing_1])), (q_now_shifted, .inl (cI, 5, .inl f_now_shifted))]) (va_runV (As := []) (rest := []) C (k_X10_faresOfAllHere l dC dI cB cI cJ cZ cS (q_G) (q_sound) (.ref q_tape) (u_G_2) (.ref q_now) (u_G_4) (.ref q_past) (.ref q_crossing) (u_G_7) (.ref q_tellers) (u_sound_0) (u_sound_1) (u_sound_2) (u_sound_3) (u_sound_4) (u_sound_5) (.int 0) (.int 1) (.int 0) _) (cwV 0 hts gX10_count_X10_faresOfAllHere rfl rfl rfl (by decide +kernel) ⟨Nat.le_of_ble_eq_true rfl, Nat.le_of_ble_eq_true rfl⟩) (q_preV hK hP (ci := 10) (q0 := 0) rfl rfl rfl (q_pre hN hK hP hD [0, 1] rfl (by decide))) rfl rfl hl.1 rfl (lv_room (Nat.le_of_ble_eq_true rfl)) dX10_count_251 ⟨Nat.le_of_ble_eq_true rfl, Nat.le_of_ble_eq_true rfl⟩) hP hD hS hA [0, 1] [2, 3, 4, 5, 6, 7, 8, 9] rfl rfl (by decide) (by decide) (fun r w1 H locs hw hP hD hS => ?_)
                                        obtain ⟨rfl, rfl⟩ := hw
                                        have hP : va_P (dC, dI) vwCl [(q_G, .inr (10, [.ref q_tape, .ref q_sound, u_G_2, .ref q_now, u_G_4, .ref q_past, .ref q_crossing, u_G_7, .ref q_tellers])), (q_sound, .inr (5, [u_sound_0, u_sound_1, u_sound_2, u_sound_3, u_sound_4, u_sound_5, .int 0, .int 0, .int 1, .int 0])), (q_now, .inr (6, [u_now_0, u_now_1, .ref q_now_shifted, u_now_3, .ref q_now_goes, .int 0, .int 0])), (q_now_goes, .inl (cI, 6, .inl f_now_goes)), (q_tape, .inr (7, [u_tape_0, .int 0])), (q_past, .inr (3, [u_past_0, u_past_1, .ref q_isHeld, u_past_3, .int 0])), (q_tellers, .inr (8, [u_tellers_0, u_tellers_1, u_tellers_2, u_tellers_3, u_tellers_4, u_tellers_5, u_tellers_6, .int 0])), (q_isHeld, .inl (cZ, 3, .inl f_isHeld)), (q_crossing, .inr (0, [.ref q_sound, u_crossing_1])), (q_now_shifted, .inl (cI, 5, .inl f_now_shifted))] H := hP.sub [8, 9, 0, 1, 2, 3, 4, 5, 6, 7] rfl
                                        have hD : va_D A [(q_G, .inr (10, [.ref q_tape, .ref q_sound, u_G_2, .ref q_now, u_G_4, .ref q_past, .ref q_crossing, u_G_7, .ref q_tellers])), (q_sound, .inr (5, [u_sound_0, u_sound_1, u_sound_2, u_sound_3, u_sound_4, u_sound_5, .int 0, .int 0, .int 1, .int 0])), (q_now, .inr (6, [u_now_0, u_now_1, .ref q_now_shifted, u_now_3, .ref q_now_goes, .int 0, .int 0])), (q_now_goes, .inl (cI, 6, .inl f_now_goes)), (q_tape, .inr (7, [u_tape_0, .int 0])), (q_past, .inr (3, [u_past_0, u_past_1, .ref q_isHeld, u_past_3, .int 0])), (q_tellers, .inr (8, [u_tellers_0, u_tellers_1, u_tellers_2, u_tellers_3, u_tellers_4, u_tellers_5, u_tellers_6, .int 0])), (q_isHeld, .inl (cZ, 3, .inl f_isHeld)), (q_crossing, .inr (0, [.ref q_sound, u_crossing_1])), (q_now_shifted, .inl (cI, 5, .inl f_now_shifted))] := hD.sub [8, 9, 0, 1, 2, 3, 4, 5, 6, 7] (by decide) rfl
                                        exact q_iret C hr hlocks hK hP hD hS (Nat.le_of_ble_eq_true rfl) (Nat.le_of_ble_eq_true rfl) dX10_count_254 (by rw [e19]; decide +kernel)
                                      · skip
                                        refine lv_tableOut (tgt := 255) hx hb dX10_count_1 (out_19 e1 e2 e3 e4 e5 e6 e7 e8 e9 e10 e11 e12 e13 e14 e15 e16 e17 e18 e19) (by decide) ?_
                                        refine lv_iconst (v := (-1)) hx hb dX10_count_255 (by decide) ?_
                                        exact q_iret C hr hlocks hK hP hD hS (Nat.le_of_ble_eq_true rfl) (Nat.le_of_ble_eq_true rfl) dX10_count_256 (fr_count_out (out_19 e1 e2 e3 e4 e5 e6 e7 e8 e9 e10 e11 e12 e13 e14 e15 e16 e17 e18 e19))
