theorem sp_hg_b {x : Int32} (h : 1 ≤ x) : 0 = sp_in x 0 0 := by
  unfold sp_in
  rw [if_neg]
  rintro ⟨-, q⟩
  exact absurd (Int32.le_trans h q) (by decide +kernel)
theorem sp_hg_c {x : Int32} (h0 : ¬ x < 0) (h : ¬ 1 ≤ x) : 1 = sp_in x 0 0 := by
  obtain rfl := i32_lt1 h0 (Int32.not_le.mp h)
  decide +kernel
theorem fr_wis_n {x : Int32} (h0 : ¬ x = 0) (h1 : ¬ x = 1) : -1 = fr_wis x := by
  unfold fr_wis
  by_cases h : sp_in x 0 1 = 0
  · rw [if_pos h]
  · rcases sp_in_2c h with q | q
    · exact absurd q h0
    · exact absurd q h1
theorem fr_dear_n {x : Int32} (h0 : ¬ x = 0) (h1 : ¬ x = 1) : -1 = fr_dear x := by
  unfold fr_dear
  by_cases h : sp_in x 0 1 = 0
  · rw [if_pos h]
  · rcases sp_in_2c h with q | q
    · exact absurd q h0
    · exact absurd q h1
theorem fr_all_a {x : Int32} (h : x < 0) : -1 = fr_all x := by
  unfold fr_all
  rw [if_pos (sp_in_a h).symm]
theorem fr_all_b {x : Int32} (h : ¬ x ≤ 2) : -1 = fr_all x := by
  unfold fr_all
  rw [if_pos (sp_in_b (Int32.not_le.mp h)).symm]
theorem fr_all_0 {x : Int32} (h0 : ¬ x < 0) (h : x ≤ 2) : 0 = fr_all x := by
  unfold fr_all
  rw [if_neg]
  rw [← sp_in_c h0 (Int32.not_lt.mpr h)]
  decide +kernel
theorem i32_3c {x : Int32} (h0 : ¬ x < 0) (h : x < 3) : x = 0 ∨ x = 1 ∨ x = 2 := by
  apply sp_in_3c
  have h2 : ¬ (2 : Int32) < x := by
    intro q
    have q := Int32.lt_iff_toInt_lt.mp q
    have h := Int32.lt_iff_toInt_lt.mp h
    rw [show (2 : Int32).toInt = 2 from by decide +kernel] at q
    rw [show (3 : Int32).toInt = 3 from by decide +kernel] at h
    omega
  rw [← sp_in_c h0 h2]
  decide +kernel
theorem sp_in_32a {x : Int32} (h : ¬ x < 3) : 0 = sp_in x 0 2 := by
  apply sp_in_b
  have h := Int32.le_iff_toInt_le.mp (Int32.not_lt.mp h)
  rw [show (3 : Int32).toInt = 3 from by decide +kernel] at h
  apply Int32.lt_iff_toInt_lt.mpr
  rw [show (2 : Int32).toInt = 2 from by decide +kernel]
  omega
theorem i32_2c {x : Int32} (h0 : ¬ x < 0) (h : x ≤ 1) : x = 0 ∨ x = 1 := by
  apply sp_in_2c
  rw [← sp_in_c h0 (Int32.not_lt.mpr h)]
  decide +kernel
theorem i32_1_20 {x : Int32} (h1 : ¬ x < 1) (h2 : x ≤ 20) : ∃ i : Nat, 1 ≤ i ∧ i ≤ 20 ∧ x = nI i := by
  apply sp_in_1_20
  rw [← sp_in_c h1 (Int32.not_lt.mpr h2)]
  decide +kernel
theorem i32_0_40 {x : Int32} (h1 : ¬ x < 0) (h2 : x ≤ 40) : ∃ i : Nat, i ≤ 40 ∧ x = nI i := by
  apply sp_in_40
  rw [← sp_in_c h1 (Int32.not_lt.mpr h2)]
  decide +kernel
theorem i32_0_20 {x : Int32} (h1 : ¬ x < 0) (h2 : x < 20) : ∃ i : Nat, i < 20 ∧ x = nI i := by
  obtain ⟨j, hj, rfl⟩ := nI_of h1
  refine ⟨j, ?_, rfl⟩
  have h2 := Int32.lt_iff_toInt_lt.mp h2
  rw [nI_toInt hj, show (20 : Int32).toInt = 20 from by decide +kernel] at h2
  omega
theorem fr_year_a {x : Int32} (h : x < 1) : -1 = fr_year 0 x := by
  unfold fr_year
  rw [if_neg (by decide +kernel), if_pos (sp_in_a h).symm]
theorem fr_year_b {x : Int32} (h : ¬ x ≤ 20) : -1 = fr_year 0 x := by
  unfold fr_year
  rw [if_neg (by decide +kernel), if_pos (sp_in_b (Int32.not_le.mp h)).symm]
theorem fr_year_v {n : Nat} (h1 : 1 ≤ n) (h2 : n ≤ 20) : nI n = fr_year 0 (nI n) := by
  unfold fr_year
  rw [if_neg (by decide +kernel), if_neg]
  rw [← sp_in_c (lo := 1) (hi := 20) (nI_nlt (b := 1) h1 (by omega)) (nI_nlt (a := 20) h2 (by omega))]
  decide +kernel
theorem fr_years_a {x : Int32} (h : x < 0) : -1 = fr_years x := by
  unfold fr_years
  rw [if_pos (sp_in_a h).symm]
theorem fr_years_b {x : Int32} (h : ¬ x ≤ 40) : -1 = fr_years x := by
  unfold fr_years
  rw [if_pos (sp_in_b (Int32.not_le.mp h)).symm]
theorem fr_years_v {n : Nat} (h2 : n ≤ 40) : nI n = fr_years (nI n) := by
  unfold fr_years
  rw [if_neg]
  rw [← sp_in_c (lo := 0) (hi := 40) (nI_pos (by omega)) (nI_nlt (a := 40) h2 (by omega))]
  decide +kernel
theorem fr_years_0 {n : Nat} (h2 : n ≤ 40) (h : nI n ≤ 0) : 0 = fr_years (nI n) := by
  rw [← fr_years_v h2]
  rcases Nat.eq_zero_or_pos n with q | q
  · subst q; decide +kernel
  · exact absurd h (nI_nle q (by omega))
theorem sp_ask_a {k l : Int32} (h : k < 0) : 0 = sp_ask k l := by
  unfold sp_ask
  rw [if_pos (sp_in_a h).symm]
theorem sp_ask_b {k l : Int32} (h : 0 < k) : 0 = sp_ask k l := by
  unfold sp_ask
  rw [if_pos (sp_in_b h).symm]
theorem sp_ask_c {k l : Int32} (h : l < 0) : 0 = sp_ask k l := by
  unfold sp_ask
  split
  · rfl
  · exact sp_in_a h
theorem sp_ask_d {k l : Int32} (h : 3 < l) : 0 = sp_ask k l := by
  unfold sp_ask
  split
  · rfl
  · exact sp_in_b h
theorem sp_ask_e {k l : Int32} (h0 : ¬ k < 0) (h1 : ¬ 0 < k) (h2 : ¬ l < 0) (h3 : ¬ 3 < l) : 1 = sp_ask k l := by
  unfold sp_ask
  rw [if_neg, ← sp_in_c h2 h3]
  rw [← sp_in_c h0 h1]
  decide +kernel
theorem sp_ask_l4 {k l : Int32} (h : ¬ sp_ask k l = 0) : l = 0 ∨ l = 1 ∨ l = 2 ∨ l = 3 := by
  unfold sp_ask at h
  split at h
  · exact absurd rfl h
  · unfold sp_in at h
    split at h
    · rename_i q
      obtain ⟨j, hj, rfl⟩ := nI_of2 (M := 3) (n := 3) (by decide +kernel) (Int32.not_lt.mpr q.1) q.2
      rcases (show j = 0 ∨ j = 1 ∨ j = 2 ∨ j = 3 by omega) with e | e | e | e <;> subst e
      · exact Or.inl rfl
      · exact Or.inr (Or.inl rfl)
      · exact Or.inr (Or.inr (Or.inl rfl))
      · exact Or.inr (Or.inr (Or.inr rfl))
    · exact absurd rfl h
theorem fr_fit_a {k l w : Int32} (h : w < 0) : -1 = fr_fit k l w := by
  unfold fr_fit
  split
  · rfl
  · rw [if_pos (sp_in_a h).symm]
theorem fr_fit_b {k l w : Int32} (h : ¬ w ≤ 1) : -1 = fr_fit k l w := by
  unfold fr_fit
  split
  · rfl
  · rw [if_pos (sp_in_b (Int32.not_le.mp h)).symm]
theorem nI_dec (k : Nat) : nI (k + 1) + Int32.ofInt (-1) = nI k := by
  have h : Int32.ofInt (-1) = -(1 : Int32) := by decide +kernel
  rw [h, ← Int32.sub_eq_add_neg, nI_pred]
theorem fr_ranked_a {x : Int32} (h : x < 0) : -1 = fr_ranked x := by
  unfold fr_ranked
  rw [if_pos (sp_in_a h).symm]
theorem fr_ranked_b {x : Int32} (h : ¬ x < 20) : -1 = fr_ranked x := by
  unfold fr_ranked
  rw [if_pos]
  symm
  apply sp_in_b
  have h := Int32.le_iff_toInt_le.mp (Int32.not_lt.mp h)
  rw [show (20 : Int32).toInt = 20 from by decide +kernel] at h
  apply Int32.lt_iff_toInt_lt.mpr
  rw [show (19 : Int32).toInt = 19 from by decide +kernel]
  omega
theorem fr_ranked_v {φ : Nat → Int32} {n : Nat} (hφ : ∀ j, j < 20 → φ j = -1) (hn : n < 20) : upd φ 0 0 (Int32.toNatClampNeg (nI n)) = fr_ranked (nI n) := by
  rw [nI_clamp (by omega)]
  unfold fr_ranked upd
  rw [if_neg (c := sp_in (nI n) 0 19 = 0)]
  · rcases Nat.eq_zero_or_pos n with q | q
    · subst q; rw [if_pos rfl, if_pos (by decide +kernel)]
    · rw [if_neg (by omega), if_neg (nI_ne0 q (by omega)), hφ n hn]
  · rw [← sp_in_c (lo := 0) (hi := 19) (nI_pos (by omega)) (nI_nlt (a := 19) (by omega) (by omega))]
    decide +kernel
/-- a fresh row: nothing is found -/
def F29 (j : Nat) : Int32 := if 5 ≤ j ∧ j < 10 then -2 else 0
theorem F29_a {i : Nat} (h : nI i < 5) (hi : i < 29) : (0 : Int32) = F29 i := by
  unfold F29
  have h := (nI_ltI (a := i) (b := 5) (by omega) (by omega)).mp h
  rw [if_neg (by omega)]
theorem F29_b {i : Nat} (h : 10 ≤ nI i) (hi : i < 29) : (0 : Int32) = F29 i := by
  unfold F29
  have h := (nI_leI (a := 10) (b := i) (by omega) (by omega)).mp h
  rw [if_neg (by omega)]
theorem F29_c {i : Nat} (h1 : ¬ nI i < 5) (h2 : ¬ 10 ≤ nI i) (hi : i < 29) : (-2 : Int32) = F29 i := by
  unfold F29
  have h1 : ¬ i < 5 := fun q => h1 ((nI_ltI (a := i) (b := 5) (by omega) (by omega)).mpr q)
  have h2 : ¬ 10 ≤ i := fun q => h2 ((nI_leI (a := 10) (b := i) (by omega) (by omega)).mpr q)
  rw [if_pos (by omega)]
section QB
variable {p : Program} {l : Launch} {e : Env} {R : Room} {s : State} {m : MethodId} {args : Array Value} {below : List Frame} {meth : Method} {c : Code} {H H0 : Heap} {locs : List Loc} {cells slots : Nat} {Q : State → Prop} {cc : ByteArray} {pc nL : Nat} {ls : Array Slot} {rest : List Value} {Ts : List Cond} {own : String} {D : va_G} {tys : List (ClassId × FieldType)} {w : va_W} {A : Nat → Prop}
theorem q_aldq {a x : Nat} {cA : ClassId} {Cn : String} {n : Nat} {f : Nat → Option Nat} {i : Int32} (C : CallFix p m c cc nL s args Ts own) (hK : va_K D vwCl tys s) (hP : va_P D vwCl w H) (q0 t0 : Nat) (ha : w[q0]? = some (a, .inl (cA, n, .inr (.inr (.inr (.inr f)))))) (ht : tys[t0]? = some (cA, .object Cn)) (hin : vp_in i n) (hdg : decode cc pc = .ok (.aaload, 1)) (hv : f i.toNatClampNeg = some x) (kk : W p l e R s m args below meth c H locs cells slots Q (F0 m (pc + 1) ls (.ref x :: rest))) : W p l e R s m args below meth c H locs cells slots Q (F0 m pc ls (.int i :: .ref a :: rest)) :=
  va_aldq C.1 C.2.1 hK hP q0 t0 ha ht hin hdg (by rw [hv]; exact kk)
end QB
theorem nwF_X0_50 : Cond.fieldLinkNest RX0 50 "GuessFerry$Sound" "waves" "I" "GuessFerry" ∈ tables_1 := List.mem_of_getElem? (i := 134) (by decide +kernel)
theorem nwF_X0_59 : Cond.fieldLinkNest RX0 59 "GuessFerry$Standing" "year" "I" "GuessFerry" ∈ tables_1 := List.mem_of_getElem? (i := 315) (by decide +kernel)
theorem nwF_X10_102 : Cond.fieldLinkNest RX10 102 "GuessFerry$Tellers" "told" "I" "GuessFerry" ∈ tables_1 := List.mem_of_getElem? (i := 414) (by decide +kernel)
theorem nwF_X10_105 : Cond.fieldLinkNest RX10 105 "GuessFerry$Reader" "faultPlace" "I" "GuessFerry" ∈ tables_1 := List.mem_of_getElem? (i := 270) (by decide +kernel)
theorem nwF_X10_122 : Cond.fieldLinkNest RX10 122 "GuessFerry$Standing" "shifted" "[I" "GuessFerry" ∈ tables_1 := List.mem_of_getElem? (i := 306) (by decide +kernel)
theorem nwF_X10_150 : Cond.fieldLinkNest RX10 150 "GuessFerry$Standing" "goes" "[I" "GuessFerry" ∈ tables_1 := List.mem_of_getElem? (i := 312) (by decide +kernel)
theorem nwF_X10_167 : Cond.fieldLinkNest RX10 167 "GuessFerry$Sound" "waves" "I" "GuessFerry" ∈ tables_1 := List.mem_of_getElem? (i := 137) (by decide +kernel)
theorem nwF_X10_189 : Cond.fieldLinkNest RX10 189 "GuessFerry$Standing" "year" "I" "GuessFerry" ∈ tables_1 := List.mem_of_getElem? (i := 316) (by decide +kernel)
theorem nwF_X10_235 : Cond.fieldLinkNest RX10 235 "GuessFerry$Sound" "parties" "I" "GuessFerry" ∈ tables_1 := List.mem_of_getElem? (i := 140) (by decide +kernel)
theorem nwF_X10_241 : Cond.fieldLinkNest RX10 241 "GuessFerry$Standing" "paid" "I" "GuessFerry" ∈ tables_1 := List.mem_of_getElem? (i := 319) (by decide +kernel)
theorem nwF_X10_253 : Cond.fieldLinkNest RX10 253 "GuessFerry$Sound" "seed" "I" "GuessFerry" ∈ tables_1 := List.mem_of_getElem? (i := 146) (by decide +kernel)
theorem nwF_X10_293 : Cond.fieldLinkNest RX10 293 "GuessFerry$Past" "size" "I" "GuessFerry" ∈ tables_1 := List.mem_of_getElem? (i := 349) (by decide +kernel)
theorem nwF_X10_305 : Cond.fieldLinkNest RX10 305 "GuessFerry$Sound" "guesses" "I" "GuessFerry" ∈ tables_1 := List.mem_of_getElem? (i := 142) (by decide +kernel)
theorem nwF_X10_85 : Cond.fieldLinkNest RX10 85 "GuessFerry$Tape" "length" "I" "GuessFerry" ∈ tables_1 := List.mem_of_getElem? (i := 38) (by decide +kernel)
theorem nwF_X10_93 : Cond.fieldLinkNest RX10 93 "GuessFerry$Reader" "draft" "LGuessFerry$Sound;" "GuessFerry" ∈ tables_1 := List.mem_of_getElem? (i := 265) (by decide +kernel)
theorem nwF_X2_44 : Cond.fieldLinkNest RX2 44 "GuessFerry$Sound" "waves" "I" "GuessFerry" ∈ tables_1 := List.mem_of_getElem? (i := 133) (by decide +kernel)
theorem nwF_X4_63 : Cond.fieldLinkNest RX4 63 "GuessFerry$Tokens" "kinds" "[I" "GuessFerry" ∈ tables_1 := List.mem_of_getElem? (i := 240) (by decide +kernel)
theorem nwF_X8_39 : Cond.fieldLinkNest RX8 39 "GuessFerry$Sound" "waves" "I" "GuessFerry" ∈ tables_1 := List.mem_of_getElem? (i := 135) (by decide +kernel)
theorem nwF_X9_61 : Cond.fieldLinkNest RX9 61 "GuessFerry$Tape" "length" "I" "GuessFerry" ∈ tables_1 := List.mem_of_getElem? (i := 39) (by decide +kernel)
theorem nwM_X10_108 : Cond.methodLinkNest RX10 108 yX5_hasWave "GuessFerry" ∈ tables_1 := List.mem_of_getElem? (i := 680) (by decide +kernel)
theorem nwM_X10_138 : Cond.methodLinkNest RX10 138 yX5_hasParty "GuessFerry" ∈ tables_1 := List.mem_of_getElem? (i := 752) (by decide +kernel)
theorem nwM_X10_170 : Cond.methodLinkNest RX10 170 yX5_hasGuess "GuessFerry" ∈ tables_1 := List.mem_of_getElem? (i := 785) (by decide +kernel)
theorem nwM_X10_173 : Cond.methodLinkNest RX10 173 yX3_remember "GuessFerry" ∈ tables_1 := List.mem_of_getElem? (i := 789) (by decide +kernel)
theorem nwM_X10_185 : Cond.methodLinkNest RX10 185 yX0_passYears "GuessFerry" ∈ tables_1 := List.mem_of_getElem? (i := 827) (by decide +kernel)
theorem nwM_X10_192 : Cond.methodLinkNest RX10 192 yX3_takeBack "GuessFerry" ∈ tables_1 := List.mem_of_getElem? (i := 842) (by decide +kernel)
theorem nwM_X10_196 : Cond.methodLinkNest RX10 196 yX2_caseCount "GuessFerry" ∈ tables_1 := List.mem_of_getElem? (i := 850) (by decide +kernel)
theorem nwM_X10_200 : Cond.methodLinkNest RX10 200 yX2_oddsOf "GuessFerry" ∈ tables_1 := List.mem_of_getElem? (i := 864) (by decide +kernel)
theorem nwM_X10_203 : Cond.methodLinkNest RX10 203 yX2_oddsOfAll "GuessFerry" ∈ tables_1 := List.mem_of_getElem? (i := 879) (by decide +kernel)
theorem nwM_X10_206 : Cond.methodLinkNest RX10 206 yX2_bestGuess "GuessFerry" ∈ tables_1 := List.mem_of_getElem? (i := 887) (by decide +kernel)
theorem nwM_X10_212 : Cond.methodLinkNest RX10 212 yX2_goesAtMost "GuessFerry" ∈ tables_1 := List.mem_of_getElem? (i := 913) (by decide +kernel)
theorem nwM_X10_215 : Cond.methodLinkNest RX10 215 yX2_leftBehind "GuessFerry" ∈ tables_1 := List.mem_of_getElem? (i := 921) (by decide +kernel)
theorem nwM_X10_218 : Cond.methodLinkNest RX10 218 yX2_wisestGuess "GuessFerry" ∈ tables_1 := List.mem_of_getElem? (i := 930) (by decide +kernel)
theorem nwM_X10_221 : Cond.methodLinkNest RX10 221 yX2_casesAheadOf "GuessFerry" ∈ tables_1 := List.mem_of_getElem? (i := 942) (by decide +kernel)
theorem nwM_X10_224 : Cond.methodLinkNest RX10 224 yX2_caseAtRank "GuessFerry" ∈ tables_1 := List.mem_of_getElem? (i := 963) (by decide +kernel)
theorem nwM_X10_227 : Cond.methodLinkNest RX10 227 yX6_copyFrom "GuessFerry" ∈ tables_1 := List.mem_of_getElem? (i := 980) (by decide +kernel)
theorem nwM_X10_256 : Cond.methodLinkNest RX10 256 yX0_guessThere "GuessFerry" ∈ tables_1 := List.mem_of_getElem? (i := 1050) (by decide +kernel)
theorem nwM_X10_266 : Cond.methodLinkNest RX10 266 yX8_areSuch "GuessFerry" ∈ tables_1 := List.mem_of_getElem? (i := 1075) (by decide +kernel)
theorem nwM_X10_269 : Cond.methodLinkNest RX10 269 yX8_believe "GuessFerry" ∈ tables_1 := List.mem_of_getElem? (i := 1079) (by decide +kernel)
theorem nwM_X10_272 : Cond.methodLinkNest RX10 272 yX8_fitting "GuessFerry" ∈ tables_1 := List.mem_of_getElem? (i := 1090) (by decide +kernel)
theorem nwM_X10_276 : Cond.methodLinkNest RX10 276 yX8_liars "GuessFerry" ∈ tables_1 := List.mem_of_getElem? (i := 1111) (by decide +kernel)
theorem nwM_X10_279 : Cond.methodLinkNest RX10 279 yX8_waveToAsk "GuessFerry" ∈ tables_1 := List.mem_of_getElem? (i := 1123) (by decide +kernel)
theorem nwM_X10_282 : Cond.methodLinkNest RX10 282 yX3_keepIn "GuessFerry" ∈ tables_1 := List.mem_of_getElem? (i := 1132) (by decide +kernel)
theorem nwM_X10_286 : Cond.methodLinkNest RX10 286 yX3_goOnFrom "GuessFerry" ∈ tables_1 := List.mem_of_getElem? (i := 1140) (by decide +kernel)
theorem nwM_X10_296 : Cond.methodLinkNest RX10 296 yX3_slotsHeld "GuessFerry" ∈ tables_1 := List.mem_of_getElem? (i := 1151) (by decide +kernel)
theorem nwM_X10_74 : Cond.methodLinkNest RX10 74 yX6_startOver "GuessFerry" ∈ tables_1 := List.mem_of_getElem? (i := 432) (by decide +kernel)
theorem nwM_X10_77 : Cond.methodLinkNest RX10 77 yX7_hasRoomFor "GuessFerry" ∈ tables_1 := List.mem_of_getElem? (i := 471) (by decide +kernel)
theorem nwM_X10_81 : Cond.methodLinkNest RX10 81 yX7_addFour "GuessFerry" ∈ tables_1 := List.mem_of_getElem? (i := 475) (by decide +kernel)
theorem nwM_X10_89 : Cond.methodLinkNest RX10 89 yX4_readTape "GuessFerry" ∈ tables_1 := List.mem_of_getElem? (i := 487) (by decide +kernel)
theorem nwM_X10_96 : Cond.methodLinkNest RX10 96 yX5_copyFrom "GuessFerry" ∈ tables_1 := List.mem_of_getElem? (i := 656) (by decide +kernel)
theorem nwM_X10_99 : Cond.methodLinkNest RX10 99 yX3_forgetAll "GuessFerry" ∈ tables_1 := List.mem_of_getElem? (i := 668) (by decide +kernel)
theorem nwM_X3_32 : Cond.methodLinkNest RX3 32 yX6_copyFrom "GuessFerry" ∈ tables_1 := List.mem_of_getElem? (i := 793) (by decide +kernel)
theorem nwM_X4_35 : Cond.methodLinkNest RX4 35 yX5_clear "GuessFerry" ∈ tables_1 := List.mem_of_getElem? (i := 491) (by decide +kernel)
theorem nwM_X4_50 : Cond.methodLinkNest RX4 50 yX9_split "GuessFerry" ∈ tables_1 := List.mem_of_getElem? (i := 492) (by decide +kernel)
theorem nwM_X4_60 : Cond.methodLinkNest RX4 60 yX5_addUp "GuessFerry" ∈ tables_1 := List.mem_of_getElem? (i := 648) (by decide +kernel)
theorem nwM_X5_50 : Cond.methodLinkNest RX5 50 yX1_clear "GuessFerry" ∈ tables_1 := List.mem_of_getElem? (i := 92) (by decide +kernel)
theorem nwM_X5_61 : Cond.methodLinkNest RX5 61 yX1_copyFrom "GuessFerry" ∈ tables_1 := List.mem_of_getElem? (i := 663) (by decide +kernel)
theorem nwM_X9_65 : Cond.methodLinkNest RX9 65 yX7_byteAt "GuessFerry" ∈ tables_1 := List.mem_of_getElem? (i := 500) (by decide +kernel)
