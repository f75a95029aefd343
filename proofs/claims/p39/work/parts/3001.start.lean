theorem dL_law_0 : decode cL_law 0 = .ok (.new 7, 3) := dcw_187 (by decide +kernel)
theorem dL_law_3 : decode cL_law 3 = .ok (.dup, 1) := dc1_89 (by decide +kernel)
theorem dL_law_4 : decode cL_law 4 = .ok (.invokespecial 9, 3) := dcw_183 (by decide +kernel)
theorem dL_law_7 : decode cL_law 7 = .ok (.astore_n 1, 1) := dc1_76 (by decide +kernel)
theorem dL_law_8 : decode cL_law 8 = .ok (.new 10, 3) := dcw_187 (by decide +kernel)
theorem dL_law_11 : decode cL_law 11 = .ok (.dup, 1) := dc1_89 (by decide +kernel)
theorem dL_law_12 : decode cL_law 12 = .ok (.invokespecial 12, 3) := dcw_183 (by decide +kernel)
theorem dL_law_15 : decode cL_law 15 = .ok (.astore_n 2, 1) := dc1_77 (by decide +kernel)
theorem dL_law_16 : decode cL_law 16 = .ok (.iconst 0, 1) := dc1_3 (by decide +kernel)
theorem dL_law_17 : decode cL_law 17 = .ok (.istore_n 3, 1) := dc1_62 (by decide +kernel)
set_option maxHeartbeats 8000000 in
set_option maxRecDepth 100000 in
theorem whole_start {p : Program} {e : Env} {s : State} {m : MethodId} {below : List Frame} {meth : Method} {c : Code} (l : Launch) (hflags : l.flags = flags0) {b L : Nat} {xs : Nat → Int32} (hL : L ≤ 3072) (C0 : lw_At p s m meth c b L xs) : W p l e room_1 s m #[Value.ref b] below meth c s.heap [] 0 0 (lw_Z below #[Value.ref b] s) (entryFrame m ([Value.ref b] : List Value).toArray 4) := by
  obtain ⟨hx, hb, hr, hml, hown, hts, hX, hbl, hlocks, hgv⟩ := id C0
  have C : CallFix p m c code 4 s #[Value.ref b] lw_tbl R_law := ⟨hx, hb, hml, hown, hts⟩
  have hA : ∀ q : Nat, s.heap.size ≤ q → (fun q : Nat => s.heap.size ≤ q) q := fun _ h => h
  have hbA : ¬ (fun q : Nat => s.heap.size ≤ q) b := Nat.not_le.mpr hbl
  obtain ⟨c0, iS0, hKn0⟩ := u_known (C := RX0) (T := TX0) (N := 2) (n := 2) hts inl_X0 (hts (.instantiable RX0 2) (lw_t (tm_2 (List.mem_of_getElem? (i := 123) rfl))))
  obtain ⟨c1, iS1, hKn1⟩ := u_known (C := RX1) (T := TX1) (N := 9) (n := 9) hts inl_X1 (hts (.instantiable RX1 9) (lw_t (tm_1 (List.mem_of_getElem? (i := 53) rfl))))
  obtain ⟨c2, iS2, hKn2⟩ := u_known (C := RX2) (T := TX2) (N := 6) (n := 6) hts inl_X2 (hts (.instantiable RX2 6) (lw_t (tm_2 (List.mem_of_getElem? (i := 136) rfl))))
  obtain ⟨c3, iS3, hKn3⟩ := u_known (C := RX3) (T := TX3) (N := 5) (n := 5) hts inl_X3 (hts (.instantiable RX3 5) (lw_t (tm_2 (List.mem_of_getElem? (i := 96) rfl))))
  obtain ⟨c4, iS4, hKn4⟩ := u_known (C := RX4) (T := TX4) (N := 8) (n := 8) hts inl_X4 (hts (.instantiable RX4 8) (lw_t (tm_1 (List.mem_of_getElem? (i := 169) rfl))))
  obtain ⟨c5, iS5, hKn5⟩ := u_known (C := RX5) (T := TX5) (N := 10) (n := 10) hts inl_X5 (hts (.instantiable RX5 10) (lw_t (tm_1 (List.mem_of_getElem? (i := 47) rfl))))
  obtain ⟨c6, iS6, hKn6⟩ := u_known (C := RX6) (T := TX6) (N := 7) (n := 7) hts inl_X6 (hts (.instantiable RX6 7) (lw_t (tm_2 (List.mem_of_getElem? (i := 51) rfl))))
  obtain ⟨c7, iS7, hKn7⟩ := u_known (C := RX7) (T := TX7) (N := 2) (n := 2) hts inl_X7 (hts (.instantiable RX7 2) (lw_t (tm_1 (List.mem_of_getElem? (i := 31) rfl))))
  obtain ⟨c8, iS8, hKn8⟩ := u_known (C := RX8) (T := TX8) (N := 8) (n := 8) hts inl_X8 (hts (.instantiable RX8 8) (lw_t (tm_2 (List.mem_of_getElem? (i := 161) rfl))))
  obtain ⟨c9, iS9, hKn9⟩ := u_known (C := RX9) (T := TX9) (N := 7) (n := 7) hts inl_X9 (hts (.instantiable RX9 7) (lw_t (tm_1 (List.mem_of_getElem? (i := 177) rfl))))
  obtain ⟨c10, iS10, hKn10⟩ := u_known (C := RX10) (T := TX10) (N := 9) (n := 9) hts inl_X10 (hts (.instantiable RX10 9) (lw_t (tm_1 (List.mem_of_getElem? (i := 23) rfl))))
  obtain ⟨c11, iS11, hKn11⟩ := u_known (C := RX11) (T := TX11) (N := 58) (n := 58) hts inl_X11 (hts (.instantiable RX11 58) (lw_t (tm_5 (List.mem_of_getElem? (i := 212) rfl))))
  obtain ⟨dC, dI, hKc⟩ : ∃ (dC : Nat → ClassId) (dI : Nat → Nat → Nat), ∀ (k : Nat) (q : vw_C), vwCl[k]? = some q → u_Kn s q.1 q.2.1 q.2.2 (dC k) (dI k) := by
    refine ⟨fun k => if k = 0 then c0 else if k = 1 then c1 else if k = 2 then c2 else if k = 3 then c3 else if k = 4 then c4 else if k = 5 then c5 else if k = 6 then c6 else if k = 7 then c7 else if k = 8 then c8 else if k = 9 then c9 else if k = 10 then c10 else c11, fun k => if k = 0 then iS0 else if k = 1 then iS1 else if k = 2 then iS2 else if k = 3 then iS3 else if k = 4 then iS4 else if k = 5 then iS5 else if k = 6 then iS6 else if k = 7 then iS7 else if k = 8 then iS8 else if k = 9 then iS9 else if k = 10 then iS10 else iS11, ?_⟩
    intro k q hq
    match k, hq with
    | 0, hq => cases hq; exact hKn0
    | 1, hq => cases hq; exact hKn1
    | 2, hq => cases hq; exact hKn2
    | 3, hq => cases hq; exact hKn3
    | 4, hq => cases hq; exact hKn4
    | 5, hq => cases hq; exact hKn5
    | 6, hq => cases hq; exact hKn6
    | 7, hq => cases hq; exact hKn7
    | 8, hq => cases hq; exact hKn8
    | 9, hq => cases hq; exact hKn9
    | 10, hq => cases hq; exact hKn10
    | 11, hq => cases hq; exact hKn11
    | k + 12, hq => simp [vwCl] at hq
  obtain ⟨cB, hcB⟩ := arr_ty (ty := .byte) (hts (.arrayClass .byte) (lw_t (tm_1 (List.mem_of_getElem? (i := 45) rfl)))) (fun _ => rfl)
  obtain ⟨cI, hcI⟩ := arr_ty (ty := .int) (hts (.arrayClass .int) (lw_t (tm_1 (List.mem_of_getElem? (i := 87) rfl)))) (fun _ => rfl)
  obtain ⟨cJ, hcJ⟩ := arr_ty (ty := .long) (hts (.arrayClass .long) (lw_t (tm_2 (List.mem_of_getElem? (i := 22) rfl)))) (fun _ => rfl)
  obtain ⟨cZ, hcZ⟩ := arr_ty (ty := .boolean) (hts (.arrayClass .boolean) (lw_t (tm_2 (List.mem_of_getElem? (i := 121) rfl)))) (fun _ => rfl)
  obtain ⟨cS, hcS⟩ := arr_ob (C := "GuessFerry$Standing") (hts (.arrayOver (.object "GuessFerry$Standing")) (lw_t (tm_2 (List.mem_of_getElem? (i := 102) rfl))))
  have hK : va_K (dC, dI) vwCl (tysA cB cI cJ cZ cS) s := ⟨hKc, fun k q h => by
    match k, h with
    | 0, h => cases h; exact hcB
    | 1, h => cases h; exact hcI
    | 2, h => cases h; exact hcJ
    | 3, h => cases h; exact hcZ
    | 4, h => cases h; exact hcS
    | k + 5, h => simp at h⟩
  have hN : nw_ok s := nw_start hts
  obtain ⟨akW, avW, hXW⟩ := xW_start hts hgv
  obtain ⟨ak, av, hXS⟩ := xS_start hts hgv
  have hS : va_S (fun q : Nat => s.heap.size ≤ q) s.heap s.heap [] := va_S.rf
  have hP : va_P (dC, dI) vwCl [] s.heap := fun k q h => by simp at h
  have hD : va_D (fun q : Nat => s.heap.size ≤ q) [] := ⟨fun i j p q h => by simp at h, fun k q h => by simp at h⟩
  have hl := lv_entry ([.ref b]) (n := 4) (Nat.le_of_ble_eq_true rfl)
  rw [lg_entry_eq]
  generalize (lg_sl ([.ref b]) ++ List.replicate (4 - (lg_sl ([.ref b])).length) Slot.unset).toArray = ls at hl ⊢
  have hl : lv_has ls 4 [(0, .ref b)] := hl
  refine va_new (ci := 10) (fs := [.null, .null, .null, .null, .null, .null, .null, .null, .null]) (C := RX10) (T := TX10) (N := 9) hx hb hts inl_X10 tyX10 tyX10_ok hown (hts (.classLink R_law 7 RX10) (lw_t (tm_1 (List.mem_of_getElem? (i := 22) rfl)))) (hts (.instantiable RX10 9) (lw_t (tm_1 (List.mem_of_getElem? (i := 23) rfl)))) (hts (.initialized RX10) (lw_t (tm_1 (List.mem_of_getElem? (i := 1) rfl)))) hK hP hD hS hA rfl (fun j hj => by rcases (show j = 0 ∨ j = 1 ∨ j = 2 ∨ j = 3 ∨ j = 4 ∨ j = 5 ∨ j = 6 ∨ j = 7 ∨ j = 8 by omega) with rfl | rfl | rfl | rfl | rfl | rfl | rfl | rfl | rfl <;> rfl) (Nat.le_of_ble_eq_true rfl) (Nat.le_of_ble_eq_true rfl) dL_law_0 (fun q_G H hP hD hS => ?_)
  refine lv_dup hx hb dL_law_3 rfl ?_
  refine q_gov (wr := []) (va_runI (As := []) (rest := [.ref q_G]) C (k_X10_init l dC dI cB cI cJ cZ cS akW avW q_G _) (cwI 0 hts gp_wsX10_init rfl rfl rfl (hts (.initialized RX10) (lw_t (tm_1 (List.mem_of_getElem? (i := 1) rfl)))) (hts (.methodLink R_law 9 yX10_init) (lw_t (tm_1 (List.mem_of_getElem? (i := 24) rfl)))) (hts (.instanceMethod yX10_init) (lw_t (tm_1 (List.mem_of_getElem? (i := 25) rfl)))) rfl (by decide +kernel) ⟨Nat.le_of_ble_eq_true rfl, Nat.le_of_ble_eq_true rfl⟩) (q_preX hN hK hP hD hS hA hXW [0] rfl (by decide)) rfl rfl hl.1 rfl (lv_room (Nat.le_of_ble_eq_true rfl)) dL_law_4 ⟨Nat.le_of_ble_eq_true rfl, Nat.le_of_ble_eq_true rfl⟩) hP hD hS hA [0] [] rfl rfl (by decide +kernel) (by decide +kernel) (fun w1 H locs hw hP hD hS => ?_)
  refine Exists.elim hw fun q_tape zw0 => Exists.elim zw0 fun q_tape_bytes zw1 => Exists.elim zw1 fun q_sound zw2 => Exists.elim zw2 fun q_sound_odds zw3 => Exists.elim zw3 fun q_sound_oddsSums zw4 => Exists.elim zw4 fun q_sound_likely zw5 => Exists.elim zw5 fun q_sound_heavy zw6 => Exists.elim zw6 fun q_sound_nerve zw7 => Exists.elim zw7 fun q_sound_laws zw8 => Exists.elim zw8 fun q_sound_laws_steps zw9 => Exists.elim zw9 fun q_sound_laws_partEnds zw10 => Exists.elim zw10 fun q_sound_laws_lawStarts zw11 => Exists.elim zw11 fun q_sound_laws_partCounts zw12 => Exists.elim zw12 fun q_sound_laws_vars zw13 => Exists.elim zw13 fun q_sound_laws_stack zw14 => Exists.elim zw14 fun q_reader zw15 => Exists.elim zw15 fun q_draft zw16 => Exists.elim zw16 fun q_draft_odds zw17 => Exists.elim zw17 fun q_draft_oddsSums zw18 => Exists.elim zw18 fun q_draft_likely zw19 => Exists.elim zw19 fun q_draft_heavy zw20 => Exists.elim zw20 fun q_draft_nerve zw21 => Exists.elim zw21 fun q_draft_laws zw22 => Exists.elim zw22 fun q_draft_laws_steps zw23 => Exists.elim zw23 fun q_draft_laws_partEnds zw24 => Exists.elim zw24 fun q_draft_laws_lawStarts zw25 => Exists.elim zw25 fun q_draft_laws_partCounts zw26 => Exists.elim zw26 fun q_draft_laws_vars zw27 => Exists.elim zw27 fun q_draft_laws_stack zw28 => Exists.elim zw28 fun q_names zw29 => Exists.elim zw29 fun q_tokens zw30 => Exists.elim zw30 fun q_words zw31 => Exists.elim zw31 fun q_kinds zw32 => Exists.elim zw32 fun q_starts zw33 => Exists.elim zw33 fun q_values zw34 => Exists.elim zw34 fun q_now zw35 => Exists.elim zw35 fun q_now_found zw36 => Exists.elim zw36 fun q_now_buoys zw37 => Exists.elim zw37 fun q_now_shifted zw38 => Exists.elim zw38 fun q_now_status zw39 => Exists.elim zw39 fun q_now_goes zw40 => Exists.elim zw40 fun q_trial zw41 => Exists.elim zw41 fun q_trial_found zw42 => Exists.elim zw42 fun q_trial_buoys zw43 => Exists.elim zw43 fun q_trial_shifted zw44 => Exists.elim zw44 fun q_trial_status zw45 => Exists.elim zw45 fun q_trial_goes zw46 => Exists.elim zw46 fun q_past zw47 => Exists.elim zw47 fun q_ring zw48 => Exists.elim zw48 fun q_slots zw49 => Exists.elim zw49 fun q_isHeld zw50 => Exists.elim zw50 fun q_crossing zw51 => Exists.elim zw51 fun q_outlook zw52 => Exists.elim zw52 fun q_near zw53 => Exists.elim zw53 fun q_far zw54 => Exists.elim zw54 fun q_topGuesses zw55 => Exists.elim zw55 fun q_topOdds zw56 => Exists.elim zw56 fun q_tellers zw57 => Exists.elim zw57 fun q_toldWaves zw58 => Exists.elim zw58 fun q_toldThings zw59 => Exists.elim zw59 fun q_t_odds zw60 => Exists.elim zw60 fun q_belied zw61 => Exists.elim zw61 fun q_byLies zw62 => Exists.elim zw62 fun φf1 zw63 => Exists.elim zw63 fun φf7 zw64 => Exists.elim zw64 fun φf9 zw65 => Exists.elim zw65 fun φf11 zw66 => Exists.elim zw66 fun φf13 zw67 => Exists.elim zw67 fun φf15 zw68 => Exists.elim zw68 fun φf3 zw69 => Exists.elim zw69 fun φf5 zw70 => ?_
  clear hw zw0 zw1 zw2 zw3 zw4 zw5 zw6 zw7 zw8 zw9 zw10 zw11 zw12 zw13 zw14 zw15 zw16 zw17 zw18 zw19 zw20 zw21 zw22 zw23 zw24 zw25 zw26 zw27 zw28 zw29 zw30 zw31 zw32 zw33 zw34 zw35 zw36 zw37 zw38 zw39 zw40 zw41 zw42 zw43 zw44 zw45 zw46 zw47 zw48 zw49 zw50 zw51 zw52 zw53 zw54 zw55 zw56 zw57 zw58 zw59 zw60 zw61 zw62 zw63 zw64 zw65 zw66 zw67 zw68 zw69
  have hw := zw70
  clear zw70
  have hwd := hw.1
  replace hw := hw.2
  have hn0 := hw.1
  replace hw := hw.2
  have hn1 := hw.1
  replace hw := hw.2
  have hn2 := hw.1
  replace hw := hw.2
  have hn3 := hw.1
  replace hw := hw.2
  have hn4 := hw.1
  replace hw := hw.2
  refine Exists.elim hw fun bb zw0 => ?_
  clear hw
  have hw := zw0
  clear zw0
  have hbb1 := hw.1
  replace hw := hw.2
  have hbb2 := hw.1
  replace hw := hw.2
  obtain rfl := hw
  refine lv_astore_n (lv' := [(1, .ref q_G), (0, .ref b)]) hx hb dL_law_7 rfl hl (by decide) rfl (fun ls hl => ?_)
  obtain ⟨a, b1, b2, c0, y, hc0, hks, hy0, hIK, hIG, hP, hD⟩ := bridge (D := (dC, dI)) (A := (fun q : Nat => s.heap.size ≤ q)) (H := H) cB cI cJ cZ cS q_G q_tape q_tape_bytes q_sound q_sound_odds q_sound_oddsSums q_sound_likely q_sound_heavy q_sound_nerve q_sound_laws q_sound_laws_steps q_sound_laws_partEnds q_sound_laws_lawStarts q_sound_laws_partCounts q_sound_laws_vars q_sound_laws_stack q_reader q_draft q_draft_odds q_draft_oddsSums q_draft_likely q_draft_heavy q_draft_nerve q_draft_laws q_draft_laws_steps q_draft_laws_partEnds q_draft_laws_lawStarts q_draft_laws_partCounts q_draft_laws_vars q_draft_laws_stack q_names q_tokens q_words q_kinds q_starts q_values q_now q_now_found q_now_buoys q_now_shifted q_now_status q_now_goes q_trial q_trial_found q_trial_buoys q_trial_shifted q_trial_status q_trial_goes q_past q_ring q_slots q_isHeld q_crossing q_outlook q_near q_far q_topGuesses q_topOdds q_tellers q_toldWaves q_toldThings q_t_odds q_belied q_byLies φf1 φf7 φf9 φf11 φf13 φf15 φf3 φf5 bb hbb1 hbb2 hn0 hn1 hn2 hn3 hn4 hP hD
  rw [← hc0] at hl
  refine va_new (ci := 11) (fs := [.int 0, .null, .int 0, .null, .int 0, .null, .null, .null, .null, .null, .int 0, .int 0, .int 0, .int 0, .int 0, .int 0, .int 0, .int 0, .int 0, .int 0, .null, .null, .null, .null, .null, .null, .null, .null, .null, .int 0, .null, .null, .null, .null, .null, .int 0, .null, .null, .null, .int 0, .null, .null, .int 0, .null, .null, .int 0, .null, .null, .int 0, .null, .null, .int 0, .null, .null, .null, .null, .null, .null]) (C := RX11) (T := TX11) (N := 58) hx hb hts inl_X11 tyX11 tyX11_ok hown (hts (.classLink R_law 10 RX11) (lw_t (tm_5 (List.mem_of_getElem? (i := 211) rfl)))) (hts (.instantiable RX11 58) (lw_t (tm_5 (List.mem_of_getElem? (i := 212) rfl)))) (hts (.initialized RX11) (lw_t (tm_1 (List.mem_of_getElem? (i := 17) rfl)))) hK hP hD hS hA rfl (fun j hj => by rcases (show j = 0 ∨ j = 1 ∨ j = 2 ∨ j = 3 ∨ j = 4 ∨ j = 5 ∨ j = 6 ∨ j = 7 ∨ j = 8 ∨ j = 9 ∨ j = 10 ∨ j = 11 ∨ j = 12 ∨ j = 13 ∨ j = 14 ∨ j = 15 ∨ j = 16 ∨ j = 17 ∨ j = 18 ∨ j = 19 ∨ j = 20 ∨ j = 21 ∨ j = 22 ∨ j = 23 ∨ j = 24 ∨ j = 25 ∨ j = 26 ∨ j = 27 ∨ j = 28 ∨ j = 29 ∨ j = 30 ∨ j = 31 ∨ j = 32 ∨ j = 33 ∨ j = 34 ∨ j = 35 ∨ j = 36 ∨ j = 37 ∨ j = 38 ∨ j = 39 ∨ j = 40 ∨ j = 41 ∨ j = 42 ∨ j = 43 ∨ j = 44 ∨ j = 45 ∨ j = 46 ∨ j = 47 ∨ j = 48 ∨ j = 49 ∨ j = 50 ∨ j = 51 ∨ j = 52 ∨ j = 53 ∨ j = 54 ∨ j = 55 ∨ j = 56 ∨ j = 57 by omega) with rfl | rfl | rfl | rfl | rfl | rfl | rfl | rfl | rfl | rfl | rfl | rfl | rfl | rfl | rfl | rfl | rfl | rfl | rfl | rfl | rfl | rfl | rfl | rfl | rfl | rfl | rfl | rfl | rfl | rfl | rfl | rfl | rfl | rfl | rfl | rfl | rfl | rfl | rfl | rfl | rfl | rfl | rfl | rfl | rfl | rfl | rfl | rfl | rfl | rfl | rfl | rfl | rfl | rfl | rfl | rfl | rfl | rfl <;> rfl) (Nat.le_of_ble_eq_true rfl) (Nat.le_of_ble_eq_true rfl) dL_law_8 (fun hm H hP hD hS => ?_)
  replace hP : va_P (dC, dI) vwCl ([(hm, .inr (11, [.int 0, .null, .int 0, .null, .int 0, .null, .null, .null, .null, .null, .int 0, .int 0, .int 0, .int 0, .int 0, .int 0, .int 0, .int 0, .int 0, .int 0, .null, .null, .null, .null, .null, .null, .null, .null, .null, .int 0, .null, .null, .null, .null, .null, .int 0, .null, .null, .null, .int 0, .null, .null, .int 0, .null, .null, .int 0, .null, .null, .int 0, .null, .null, .int 0, .null, .null, .null, .null, .null, .null]))] ++ wY cB cI cJ cZ cS a b1 b2 c0 bb y) H := sw2P hP
  replace hD : va_D (fun q : Nat => s.heap.size ≤ q) ([(hm, .inr (11, [.int 0, .null, .int 0, .null, .int 0, .null, .null, .null, .null, .null, .int 0, .int 0, .int 0, .int 0, .int 0, .int 0, .int 0, .int 0, .int 0, .int 0, .null, .null, .null, .null, .null, .null, .null, .null, .null, .int 0, .null, .null, .null, .null, .null, .int 0, .null, .null, .null, .int 0, .null, .null, .int 0, .null, .null, .int 0, .null, .null, .int 0, .null, .null, .int 0, .null, .null, .null, .null, .null, .null]))] ++ wY cB cI cJ cZ cS a b1 b2 c0 bb y) := sw2D hD
  refine lv_dup hx hb dL_law_11 rfl ?_
  refine q_govT (wr := []) (va_runI (As := []) (rest := [.ref hm]) C (c_init l dC dI cB cI cJ cZ cS hm _) (cwI 0 hts gp_wsX11_init rfl rfl rfl (hts (.initialized RX11) (lw_t (tm_1 (List.mem_of_getElem? (i := 17) rfl)))) (hts (.methodLink R_law 12 yX11_init) (lw_t (tm_5 (List.mem_of_getElem? (i := 213) rfl)))) (hts (.instanceMethod yX11_init) (lw_t (tm_5 (List.mem_of_getElem? (i := 214) rfl)))) rfl (by decide +kernel) ⟨Nat.le_of_ble_eq_true rfl, Nat.le_of_ble_eq_true rfl⟩) (q_pre hN hK hP hD [0] rfl (by decide)) rfl rfl hl.1 rfl (lv_room (Nat.le_of_ble_eq_true rfl)) dL_law_12 ⟨Nat.le_of_ble_eq_true rfl, Nat.le_of_ble_eq_true rfl⟩) hP hD hS hA [0] [] rfl rfl (by decide +kernel) (by decide +kernel) (fun w1 H locs hw hP hD hS => ?_)
  obtain ⟨a9, z, hIR, hBG, hz0, rfl⟩ := hw
  replace hP : va_P (dC, dI) vwCl (mwS cB cI cJ cZ hm a9 z ++ wY cB cI cJ cZ cS a b1 b2 c0 bb y) H := hP
  replace hD : va_D (fun q : Nat => s.heap.size ≤ q) (mwS cB cI cJ cZ hm a9 z ++ wY cB cI cJ cZ cS a b1 b2 c0 bb y) := hD
  refine W.widen (k := 361) (n := 24806) (Nat.le_of_ble_eq_true rfl) (Nat.le_of_ble_eq_true rfl) ?_
  refine lv_astore_n (lv' := [(2, .ref hm), (1, .ref (c0 0)), (0, .ref b)]) hx hb dL_law_15 rfl hl (by decide) rfl (fun ls hl => ?_)
  refine lv_iconst (v := 0) hx hb dL_law_16 (by decide) ?_
  refine lv_istore_n (lv' := [(3, .int 0), (2, .ref hm), (1, .ref (c0 0)), (0, .ref b)]) hx hb dL_law_17 rfl hl (by decide) rfl (fun ls hl => ?_)
  exact law_loop l hL C0 dC dI cB cI cJ cZ cS hK hN ak av hXS a b1 b2 c0 bb hm a9 513 0 (by omega) (by omega) y z H locs ls hIK hIG hIR hBG ⟨tp_start hy0 hwd hz0.1, rel_start hIK hks hz0.2 hz0.1.2.2.2.1 hz0.1.2.2.2.2.1⟩ hP hD hS hl
