-- ===== end of PART A; then your names; then what follows =====
/-! THE CLAIM OUT OF ONE WALK OF THE LAW'S BODY. Your part is whole_start (and what it stands on); all else here is the same for every law, but numbers. -/
noncomputable def R_law : String := "GuessFerryLaw"
noncomputable def lw_P (b : Addr) (xs : List Int32) (args : Array Value) (s : State) : Prop := args = #[.ref b] ∧ s.IntsAt b xs ∧ xs.length ≤ 3072 ∧ (Jvm.Cond.and given_1 narrow_1).before args s = true
noncomputable def lw_Q (_ : Array Value) (s : State) (o : Outcome) (t : State) : Prop := o = .returned (some (.int 1)) ∧ Framed s o t [] 600000 7302250
noncomputable def lw_Z (below : List Frame) (a : Array Value) (s : State) : State → Prop := fun t => ∃ o, t.status = .running ∧ Ended t below o ∧ lw_Q a s o t
/-- the law's own end, with 1 on the stack, nothing written that was there before, its room as the claim has it -/
theorem lw_ret {p : Program} {l : Launch} {e : Env} {s : State} {m : MethodId} {below : List Frame} {meth : Method} {c : Code} {b : Nat} (hx : p.tables.exec = Jvm.exec) (hb : c.code = code) (hr : meth.sig.returnType = ret) (hlocks : meth.locks = false) {pc : Nat} {H : Heap} {ls : Array Slot} (hdg : decode code pc = .ok (.ireturn, 1)) : W p l e room_1 s m #[Value.ref b] below meth c H [] 600000 7302250 (lw_Z below #[Value.ref b] s) (F0 m pc ls [.int 1]) := by
  intro T hT X
  obtain ⟨fs, hret, hrun, hended, hW, hframe⟩ := X.leave (v := some (.int 1)) (hlocks := hlocks) (fun h => by rw [hr] at h; cases h)
  have hmeth' : T.vm.method? m = some meth := X.method'
  refine ⟨T.setFrames fs, ?_, .returned (some (.int 1)), hrun, hended, rfl, ⟨_, rfl⟩, hW, hframe⟩
  jvm_step X.here [X.here.top, hx, hb, hdg, hmeth', hr, ret, narrow_b1]
  (try refine ⟨rfl, ?_⟩); (try refine ⟨rfl, ?_⟩)
  first | (intro acts; rw [hret _ acts rfl rfl rfl]) | rw [hret _ _ rfl rfl rfl]
  exact Steps.refl _
/-- what holds at the law's entry: the machine, the code, the tables' words (any of lw_tbl by 'hts w (by decide +kernel)'), the script of L ints xs at the cell b, what the Statement gives of the start (any of its parts by flat_of_before) -/
noncomputable def lw_At (p : Program) (s : State) (m : MethodId) (meth : Method) (c : Code) (b L : Nat) (xs : Nat → Int32) : Prop :=
  p.tables.exec = Jvm.exec ∧ c.code = code ∧ meth.sig.returnType = ret ∧ c.maxLocals = 4 ∧ s.vm.findClass R_law = some m.cls ∧ (∀ w ∈ lw_tbl, w.before #[Value.ref b] s = true) ∧ va_X b L xs s s.heap ∧ b < s.heap.size ∧ meth.locks = false ∧ (Jvm.Cond.and given_1 narrow_1).before #[Value.ref b] s = true
theorem arr_ty {ty : FieldType} {args : Array Value} {s : State} (h : (Cond.arrayClass ty).before args s = true) (hp : ∀ c, va_RA s c ty = (s.vm.findClass ("[" ++ ty.toString) = some c)) : ∃ c : ClassId, ArrOfT s c ty ∧ va_RA s c ty := by
  obtain ⟨cA, kA, comp, h1, h2, h3⟩ := Cond.arrayClass_spec h
  exact ⟨cA, fun n z => ⟨fun k h => (by cases h), kA, h2, comp, h3⟩, by rw [hp]; exact h1⟩
theorem arr_ob {C : String} {args : Array Value} {s : State} (h : (Cond.arrayOver (.object C)).before args s = true) : ∃ c : ClassId, ArrOfT s c (.object C) ∧ va_RA s c (.object C) := by
  obtain ⟨comp, cA, kA, h1, h2, h3, h4, h5⟩ := Cond.arrayOver_spec h
  exact ⟨cA, fun n z => ⟨fun k h => (by cases h), kA, h3, comp, h4⟩, kA, comp, h3, h4, h1, h5⟩
theorem nw_start {args : Array Value} {s : State} (hts : ∀ w ∈ lw_tbl, w.before args s = true) : nw_ok s := by
  intro w hw hi
  have h1 := hts w (List.mem_append_right _ hw)
  cases w <;> first | (exact va_Nw.of rfl h1) | (simp [isNest] at hi)
theorem out_47 {x : Int32} (h : ∀ k : Nat, k < 47 → ¬ x = nI k) : x.toInt < 0 ∨ (46 : Int) < x.toInt := by
  by_cases q1 : x < 0
  · have q1 := Int32.lt_iff_toInt_lt.mp q1
    rw [show (0 : Int32).toInt = 0 from by decide +kernel] at q1
    exact Or.inl q1
  · obtain ⟨j, hj, rfl⟩ := nI_of q1
    rw [nI_toInt hj]
    by_cases q2 : j < 47
    · exact absurd rfl (h j q2)
    · exact Or.inr (by omega)
theorem lw_t0 {w : Cond} (h : w ∈ tables_1) : w ∈ lw_tbl := List.mem_append_right _ h
set_option maxRecDepth 100000 in
theorem xs_el : ∀ j : Nat, j < 101 → (Cond.eq (.elem (.field (Term.string "GuessFerry$Tokens" 27) "java/lang/String" "value" "[B") (.int (Int32.ofNat j))) (.int (bytL.getD j 0))) ∈ flatC (Jvm.Cond.and given_1 narrow_1) := fun j hj => List.mem_of_getElem? (i := 13 + j) ((by decide +kernel : ∀ j : Nat, j < 101 → (flatC (Jvm.Cond.and given_1 narrow_1))[13 + j]? = some (Cond.eq (.elem (.field (Term.string "GuessFerry$Tokens" 27) "java/lang/String" "value" "[B") (.int (Int32.ofNat j))) (.int (bytL.getD j 0)))) j hj)
set_option maxRecDepth 100000 in
theorem xW_start {args : Array Value} {s : State} (hts : ∀ w ∈ lw_tbl, w.before args s = true) (hgv : (Jvm.Cond.and given_1 narrow_1).before args s = true) : ∃ ak av : Nat, xW ak av (fun q : Nat => s.heap.size ≤ q) s s.heap := by
  have hs := flat_of_before _ hgv
  have hA : ∀ a : Nat, a < s.heap.size → ¬ (fun q : Nat => s.heap.size ≤ q) a := fun a h => Nat.not_le.mpr h
  obtain ⟨adK, adV, hS, hE⟩ := vk_Sof (args := args) (s := s) (N := 1) (tm := fun _ => (Term.string "GuessFerry$Tokens" 27)) (len := [101]) (byt := [bytL]) (A := fun q : Nat => s.heap.size ≤ q)
    (fun i hi => by obtain rfl : i = 0 := by omega
                    decide)
    (fun i hi => hs _ (by decide +kernel)) (fun i hi => hs _ (by decide +kernel)) (fun i hi => hs _ (by decide +kernel))
    (fun i hi => by obtain rfl : i = 0 := by omega
                    exact hs (Cond.eq (.length (.field (Term.string "GuessFerry$Tokens" 27) "java/lang/String" "value" "[B")) (.int 101)) (by decide +kernel))
    (fun i hi j hj => by obtain rfl : i = 0 := by omega
                         exact hs _ (xs_el j hj))
    (fun i j hi hj hne => absurd (show i = j by omega) hne) hA
  obtain ⟨h1, h2, h3, h4⟩ := hS.1 0 (by decide)
  refine ⟨adK 0, adV 0, va_AO.of (hts (.arrayOver (.object "GuessFerry$Standing")) (lw_t0 (tm_2 (List.mem_of_getElem? (i := 102) rfl)))), vk_R.of (A := args) (hts (.stringRef "GuessFerry$Tokens" 27 txW) (lw_t0 (tm_1 (List.mem_of_getElem? (i := 182) rfl)))) (hE 0 (by decide)), h1, h2, h3, h4, ?_, ?_⟩
  · exact va_Zof (args := args) (hts (.laysStatic "java/lang/String" "COMPACT_STRINGS" "Z") (lw_t0 (tm_1 (List.mem_of_getElem? (i := 192) rfl)))) (hts (.initialized "java/lang/String") (lw_t0 (tm_1 (List.mem_of_getElem? (i := 7) rfl)))) (va_eqt (hs (Cond.eq (.static "java/lang/String" "COMPACT_STRINGS" "Z") (.int 1)) (by decide +kernel))) hA
  · exact va_Zqof (args := args) (hts (.laysStatic "jdk/internal/util/Preconditions" "SIOOBE_FORMATTER" "Ljava/util/function/BiFunction;") (lw_t0 (tm_1 (List.mem_of_getElem? (i := 208) rfl)))) (hts (.initialized "jdk/internal/util/Preconditions") (lw_t0 (tm_1 (List.mem_of_getElem? (i := 9) rfl)))) (hs (Cond.isRef (.static "jdk/internal/util/Preconditions" "SIOOBE_FORMATTER" "Ljava/util/function/BiFunction;")) (by decide +kernel)) hA
set_option maxRecDepth 100000 in
theorem xsS_el : ∀ j : Nat, j < 9 → (Cond.eq (.elem (.field (Term.string "GuessFerry$Tokens" 81) "java/lang/String" "value" "[B") (.int (Int32.ofNat j))) (.int (bytS.getD j 0))) ∈ flatC (Jvm.Cond.and given_1 narrow_1) := fun j hj => List.mem_of_getElem? (i := 118 + j) ((by decide +kernel : ∀ j : Nat, j < 9 → (flatC (Jvm.Cond.and given_1 narrow_1))[118 + j]? = some (Cond.eq (.elem (.field (Term.string "GuessFerry$Tokens" 81) "java/lang/String" "value" "[B") (.int (Int32.ofNat j))) (.int (bytS.getD j 0)))) j hj)
set_option maxRecDepth 100000 in
theorem xS_start {args : Array Value} {s : State} (hts : ∀ w ∈ lw_tbl, w.before args s = true) (hgv : (Jvm.Cond.and given_1 narrow_1).before args s = true) : ∃ ak av : Nat, xS ak av (fun q : Nat => s.heap.size ≤ q) s s.heap := by
  have hs := flat_of_before _ hgv
  have hA : ∀ a : Nat, a < s.heap.size → ¬ (fun q : Nat => s.heap.size ≤ q) a := fun a h => Nat.not_le.mpr h
  obtain ⟨adK, adV, hS, hE⟩ := vk_Sof (args := args) (s := s) (N := 1) (tm := fun _ => (Term.string "GuessFerry$Tokens" 81)) (len := [9]) (byt := [bytS]) (A := fun q : Nat => s.heap.size ≤ q)
    (fun i hi => by obtain rfl : i = 0 := by omega
                    decide)
    (fun i hi => hs _ (by decide +kernel)) (fun i hi => hs _ (by decide +kernel)) (fun i hi => hs _ (by decide +kernel))
    (fun i hi => by obtain rfl : i = 0 := by omega
                    exact hs (Cond.eq (.length (.field (Term.string "GuessFerry$Tokens" 81) "java/lang/String" "value" "[B")) (.int 9)) (by decide +kernel))
    (fun i hi j hj => by obtain rfl : i = 0 := by omega
                         exact hs _ (xsS_el j hj))
    (fun i j hi hj hne => absurd (show i = j by omega) hne) hA
  obtain ⟨h1, h2, h3, h4⟩ := hS.1 0 (by decide)
  refine ⟨adK 0, adV 0, vk_R.of (A := args) (hts (.stringRef "GuessFerry$Tokens" 81 txS) (lw_t0 (tm_3 (List.mem_of_getElem? (i := 44) rfl)))) (hE 0 (by decide)), h1, h2, h3, h4, ?_⟩
  exact va_Zof (args := args) (hts (.laysStatic "java/lang/String" "COMPACT_STRINGS" "Z") (lw_t0 (tm_1 (List.mem_of_getElem? (i := 192) rfl)))) (hts (.initialized "java/lang/String") (lw_t0 (tm_1 (List.mem_of_getElem? (i := 7) rfl)))) (va_eqt (hs (Cond.eq (.static "java/lang/String" "COMPACT_STRINGS" "Z") (.int 1)) (by decide +kernel))) hA
set_option maxRecDepth 100000 in
theorem inl_X0 : ∀ w ∈ u_ws RX0 TX0 2, w ∈ lw_tbl := fun w h => (goodIn_r (big := lw_tbl) wsX00 [538, 540] (by decide +kernel) (by decide +kernel) w h).1
set_option maxRecDepth 100000 in
theorem inl_X1 : ∀ w ∈ u_ws RX1 TX1 9, w ∈ lw_tbl := fun w h => (goodIn_r (big := lw_tbl) wsX10 [236, 238, 240, 242, 244, 246, 248, 250, 252] (by decide +kernel) (by decide +kernel) w h).1
set_option maxRecDepth 100000 in
theorem inl_X2 : ∀ w ∈ u_ws RX2 TX2 6, w ∈ lw_tbl := fun w h => (goodIn_r (big := lw_tbl) wsX20 [555, 557, 559, 561, 563, 565] (by decide +kernel) (by decide +kernel) w h).1
set_option maxRecDepth 100000 in
theorem inl_X3 : ∀ w ∈ u_ws RX3 TX3 5, w ∈ lw_tbl := fun w h => (goodIn_r (big := lw_tbl) wsX30 [518, 520, 522, 524, 526] (by decide +kernel) (by decide +kernel) w h).1
set_option maxRecDepth 100000 in
theorem inl_X4 : ∀ w ∈ u_ws RX4 TX4 8, w ∈ lw_tbl := fun w h => (goodIn_r (big := lw_tbl) wsX40 [441, 443, 445, 447, 449, 451, 453, 455] (by decide +kernel) (by decide +kernel) w h).1
set_option maxRecDepth 100000 in
theorem inl_X5 : ∀ w ∈ u_ws RX5 TX5 10, w ∈ lw_tbl := fun w h => (goodIn_r (big := lw_tbl) wsX50 [315, 317, 319, 321, 323, 325, 327, 329, 331, 333] (by decide +kernel) (by decide +kernel) w h).1
set_option maxRecDepth 100000 in
theorem inl_X6 : ∀ w ∈ u_ws RX6 TX6 7, w ∈ lw_tbl := fun w h => (goodIn_r (big := lw_tbl) wsX60 [488, 490, 492, 494, 496, 498, 500] (by decide +kernel) (by decide +kernel) w h).1
set_option maxRecDepth 100000 in
theorem inl_X7 : ∀ w ∈ u_ws RX7 TX7 2, w ∈ lw_tbl := fun w h => (goodIn_r (big := lw_tbl) wsX70 [208, 210] (by decide +kernel) (by decide +kernel) w h).1
set_option maxRecDepth 100000 in
theorem inl_X8 : ∀ w ∈ u_ws RX8 TX8 8, w ∈ lw_tbl := fun w h => (goodIn_r (big := lw_tbl) wsX80 [583, 585, 587, 589, 591, 593, 595, 597] (by decide +kernel) (by decide +kernel) w h).1
set_option maxRecDepth 100000 in
theorem inl_X9 : ∀ w ∈ u_ws RX9 TX9 7, w ∈ lw_tbl := fun w h => (goodIn_r (big := lw_tbl) wsX90 [415, 417, 419, 421, 423, 425, 427] (by decide +kernel) (by decide +kernel) w h).1
set_option maxRecDepth 100000 in
theorem inl_X10 : ∀ w ∈ u_ws RX10 TX10 9, w ∈ lw_tbl := fun w h => (goodIn_r (big := lw_tbl) wsX100 [616, 618, 620, 622, 624, 626, 628, 630, 632] (by decide +kernel) (by decide +kernel) w h).1
set_option maxRecDepth 100000 in
theorem inl_X11 : ∀ w ∈ u_ws RX11 TX11 58, w ∈ lw_tbl := fun w h => (goodIn_r (big := lw_tbl) wsX110 [1421, 1423, 1425, 1427, 1429, 1431, 1433, 1435, 1437, 1439, 1441, 1443, 1445, 1447, 1449, 1451, 1453, 1455, 1457, 1459, 1461, 1463, 1465, 1467, 1469, 1471, 1473, 1475, 1477, 1479, 1481, 1483, 1485, 1487, 1489, 1491, 1493, 1495, 1497, 1499, 1501, 1503, 1505, 1507, 1509, 1511, 1513, 1515, 1517, 1519, 1521, 1523, 1525, 1527, 1529, 1531, 1533, 1535] (by decide +kernel) (by decide +kernel) w h).1
