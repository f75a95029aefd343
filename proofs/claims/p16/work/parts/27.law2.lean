set_option maxRecDepth 100000 in
theorem xW_start {args : Array Value} {s : State} (hts : ∀ w ∈ lw_tbl, w.before args s = true) (hgv : (Jvm.Cond.and given_1 narrow_1).before args s = true) : ∃ ak av : Nat, xW ak av (fun q : Nat => s.heap.size ≤ q) s s.heap := by
  have hs := flat_of_before _ hgv
  have hA : ∀ a : Nat, a < s.heap.size → ¬ (fun q : Nat => s.heap.size ≤ q) a := fun a h => Nat.not_le.mpr h
  obtain ⟨adK, adV, hS, hE⟩ := vk_Sof (args := args) (s := s) (N := 1) (tm := fun _ => (Term.string "GuessFerry$Tokens" 27)) (len := [101]) (byt := [bytL]) (A := fun q : Nat => s.heap.size ≤ q)
    (fun i hi => by obtain rfl : i = 0 := by omega
                    decide)
    (fun i hi => hs _ (by decide +kernel)) (fun i hi => hs _ (by decide +kernel)) (fun i hi => hs _ (by decide +kernel))
    (fun i hi => by obtain rfl : i = 0 := by omega
                    exact hs (Cond.eq (.length (.field (Term.string "GuessFerry$Tokens" 27) "java/lang/String" "value" "[B")) (.int 101)) (by decide +kernel))
    (fun i hi j hj => by obtain rfl : i = 0 := by omega
                         exact hs _ (xs_el j hj))
    (fun i j hi hj hne => absurd (show i = j by omega) hne) hA
  obtain ⟨h1, h2, h3, h4⟩ := hS.1 0 (by decide)
  refine ⟨adK 0, adV 0, va_AO.of (hts (.arrayOver (.object "GuessFerry$Standing")) (lw_t0 (tm_2 (List.mem_of_getElem? (i := 102) rfl)))), vk_R.of (A := args) (hts (.stringRef "GuessFerry$Tokens" 27 txW) (lw_t0 (tm_1 (List.mem_of_getElem? (i := 182) rfl)))) (hE 0 (by decide)), h1, h2, h3, h4, ?_, ?_⟩
  · exact va_Zof (args := args) (hts (.laysStatic "java/lang/String" "COMPACT_STRINGS" "Z") (lw_t0 (tm_1 (List.mem_of_getElem? (i := 192) rfl)))) (hts (.initialized "java/lang/String") (lw_t0 (tm_1 (List.mem_of_getElem? (i := 7) rfl)))) (va_eqt (hs (Cond.eq (.static "java/lang/String" "COMPACT_STRINGS" "Z") (.int 1)) (by decide +kernel))) hA
  · exact va_Zqof (args := args) (hts (.laysStatic "jdk/internal/util/Preconditions" "SIOOBE_FORMATTER" "Ljava/util/function/BiFunction;") (lw_t0 (tm_1 (List.mem_of_getElem? (i := 208) rfl)))) (hts (.initialized "jdk/internal/util/Preconditions") (lw_t0 (tm_1 (List.mem_of_getElem? (i := 9) rfl)))) (hs (Cond.isRef (.static "jdk/internal/util/Preconditions" "SIOOBE_FORMATTER" "Ljava/util/function/BiFunction;")) (by decide +kernel)) hA
