section
section QN
variable {p : Program} {l : Launch} {e : Env} {R : Room} {s : State} {m : MethodId} {args : Array Value} {below : List Frame} {meth : Method} {c : Code} {H H0 : Heap} {locs : List Loc} {cells slots : Nat} {Q : State → Prop} {cc : ByteArray} {pc nL : Nat} {ls : Array Slot} {rest : List Value} {Ts : List Cond} {own : String} {D : va_G} {tys : List (ClassId × FieldType)} {w : va_W} {A : Nat → Prop}
/-- the class of an array by its kind is one -/
theorem ra_inj {U : State} {c1 c2 : ClassId} {ty : FieldType} (hp : ∀ c, va_RA U c ty = (U.vm.findClass ("[" ++ ty.toString) = some c)) (h1 : va_RA U c1 ty) (h2 : va_RA U c2 ty) : c1 = c2 := by
  rw [hp] at h1 h2
  exact Option.some.inj (h1.symm.trans h2)
theorem q_newa {atype : ArrayType} {ty : FieldType} {cA : ClassId} {n : Int32} {N' : Nat} (a0 : vp_A) (C : CallFix p m c cc nL s args Ts own) (harr : Cond.arrayClass (newarray.typeOf atype) ∈ Ts) (hty : newarray.typeOf atype = ty) (hp : ∀ c, va_RA s c ty = (s.vm.findClass ("[" ++ ty.toString) = some c)) (hK : va_K D vwCl tys s) (hP : va_P D vwCl w H) (hD : va_D A w) (hS : va_S A H0 H locs) (hA : ∀ q, H0.size ≤ q → A q) (t0 : Nat) (ht : tys[t0]? = some (cA, ty)) (ha : ∀ cA : ClassId, vp_cell cA a0 = arrV cA N' (fun _ => defaultValue ty)) (hn : ¬ n < 0) (hN : n.toNatClampNeg = N') (hbytes : N' * componentBytes ty ≤ 536870912) (hcells : cells + 1 ≤ R.cells) (hslots : slots + N' ≤ R.slots) (hdg : decode cc pc = .ok (.newarray atype, 2))
    (kk : ∀ (q : Nat) (H1 : Heap), va_P D vwCl (w ++ [(q, .inl (cA, a0))]) H1 → va_D A (w ++ [(q, .inl (cA, a0))]) → va_S A H0 H1 locs → W p l e R s m args below meth c H1 locs (cells + 1) (slots + N') Q (F0 m (pc + 2) ls (.ref q :: rest))) : W p l e R s m args below meth c H locs cells slots Q (F0 m pc ls (.int n :: rest)) := by
  refine va_newa (atype := atype) C.1 C.2.1 (C.2.2.2.2 _ harr) hty hK hP hD hS hA ha hn hN hbytes hcells hslots hdg (fun q cA2 H1 hK2 hP2 hD2 hS2 => ?_)
  have e : cA2 = cA := ra_inj hp ((hK2.2 tys.length (cA2, ty) (by simp)).2) ((hK.2 t0 _ ht).2)
  subst e
  exact kk q H1 hP2 hD2 hS2
theorem q_newq {Cn : String} {cA : ClassId} {n : Int32} {N' index : Nat} (C : CallFix p m c cc nL s args Ts own) (hcl : Cond.classLink own index Cn ∈ Ts) (hover : va_AO Cn s) (hK : va_K D vwCl tys s) (hP : va_P D vwCl w H) (hD : va_D A w) (hS : va_S A H0 H locs) (hA : ∀ q, H0.size ≤ q → A q) (t0 : Nat) (ht : tys[t0]? = some (cA, .object Cn)) (hn : ¬ n < 0) (hN : n.toNatClampNeg = N') (hbytes : N' * 4 ≤ 536870912) (hcells : cells + 1 ≤ R.cells) (hslots : slots + N' ≤ R.slots) (hdg : decode cc pc = .ok (.anewarray index, 3))
    (kk : ∀ (q : Nat) (H1 : Heap), va_P D vwCl (w ++ [(q, .inl (cA, N', .inr (.inr (.inr (.inr (fun _ => none))))))]) H1 → va_D A (w ++ [(q, .inl (cA, N', .inr (.inr (.inr (.inr (fun _ => none))))))]) → va_S A H0 H1 locs → W p l e R s m args below meth c H1 locs (cells + 1) (slots + N') Q (F0 m (pc + 3) ls (.ref q :: rest))) : W p l e R s m args below meth c H locs cells slots Q (F0 m pc ls (.int n :: rest)) := by
  refine va_newq C.1 C.2.1 C.2.2.2.1 (C.2.2.2.2 _ hcl) hover hK hP hD hS hA hn hN hbytes hcells hslots hdg (fun q cA2 H1 hK2 hP2 hD2 hS2 => ?_)
  have e : cA2 = cA := by
    have h1 := (hK2.2 tys.length (cA2, .object Cn) (by simp)).2
    have h2 := (hK.2 t0 _ ht).2
    obtain ⟨_, _, _, _, _, g1⟩ := h1
    obtain ⟨_, _, _, _, _, g2⟩ := h2
    exact Option.some.inj (g1.symm.trans g2)
  subst e
  exact kk q H1 hP2 hD2 hS2
end QN
theorem nwF_X0_21 : Cond.fieldLinkNest RX0 21 "GuessFerry$Laws" "vars" "[I" "GuessFerry" ∈ tables_1 := List.mem_of_getElem? (i := 62) (by decide +kernel)
theorem nwM_X10_18 : Cond.methodLinkNest RX10 18 yX5_init "GuessFerry" ∈ tables_1 := List.mem_of_getElem? (i := 48) (by decide +kernel)
theorem nwM_X10_25 : Cond.methodLinkNest RX10 25 yX4_init "GuessFerry" ∈ tables_1 := List.mem_of_getElem? (i := 170) (by decide +kernel)
theorem nwM_X10_34 : Cond.methodLinkNest RX10 34 yX6_init "GuessFerry" ∈ tables_1 := List.mem_of_getElem? (i := 292) (by decide +kernel)
theorem nwM_X10_44 : Cond.methodLinkNest RX10 44 yX3_init "GuessFerry" ∈ tables_1 := List.mem_of_getElem? (i := 337) (by decide +kernel)
theorem nwM_X10_51 : Cond.methodLinkNest RX10 51 yX0_init "GuessFerry" ∈ tables_1 := List.mem_of_getElem? (i := 364) (by decide +kernel)
theorem nwM_X10_60 : Cond.methodLinkNest RX10 60 yX2_init "GuessFerry" ∈ tables_1 := List.mem_of_getElem? (i := 377) (by decide +kernel)
theorem nwM_X10_69 : Cond.methodLinkNest RX10 69 yX8_init "GuessFerry" ∈ tables_1 := List.mem_of_getElem? (i := 402) (by decide +kernel)
theorem nwM_X10_9 : Cond.methodLinkNest RX10 9 yX7_init "GuessFerry" ∈ tables_1 := List.mem_of_getElem? (i := 32) (by decide +kernel)
theorem nwM_X3_24 : Cond.methodLinkNest RX3 24 yX6_init "GuessFerry" ∈ tables_1 := List.mem_of_getElem? (i := 343) (by decide +kernel)
theorem nwM_X4_11 : Cond.methodLinkNest RX4 11 yX5_init "GuessFerry" ∈ tables_1 := List.mem_of_getElem? (i := 175) (by decide +kernel)
theorem nwM_X4_28 : Cond.methodLinkNest RX4 28 yX9_init "GuessFerry" ∈ tables_1 := List.mem_of_getElem? (i := 178) (by decide +kernel)
theorem nwM_X5_29 : Cond.methodLinkNest RX5 29 yX1_init "GuessFerry" ∈ tables_1 := List.mem_of_getElem? (i := 54) (by decide +kernel)
end
section

set_option maxHeartbeats 4000000 in
set_option maxRecDepth 100000 in
theorem k_begin0 (l : Launch) (dC : Nat → ClassId) (dI : Nat → Nat → Nat) (cB cI cJ cZ cS : ClassId) (q_sound_laws : Nat) (q_sound_lawStarts : Nat) (q_sound_partCounts : Nat) (u_sound_laws_0 : Value) (u_sound_laws_1 : Value) (u_sound_laws_4 : Value) (u_sound_laws_5 : Value) (y_cur : Int32) (u_sound_laws_8 : Value) (f_sound_lawStarts : Nat → Int32) (f_sound_partCounts : Nat → Int32) : CV l yX1_begin wsX1_begin ({ frames := 0, cells := 0, slots := 0, locals := 0 }) (dC, dI) (tysA cB cI cJ cZ cS) [(q_sound_laws, .inr (1, [u_sound_laws_0, u_sound_laws_1, .ref q_sound_lawStarts, .ref q_sound_partCounts, u_sound_laws_4, u_sound_laws_5, .int 0, .int y_cur, u_sound_laws_8])), (q_sound_lawStarts, .inl (cI, 4, .inl f_sound_lawStarts)), (q_sound_partCounts, .inl (cI, 4, .inl f_sound_partCounts))] [.ref q_sound_laws, .int 0] (fun w => w = [(q_sound_laws, .inr (1, [u_sound_laws_0, u_sound_laws_1, .ref q_sound_lawStarts, .ref q_sound_partCounts, u_sound_laws_4, u_sound_laws_5, .int 0, .int 0, u_sound_laws_8])), (q_sound_lawStarts, .inl (cI, 4, .inl (upd f_sound_lawStarts 0 0))), (q_sound_partCounts, .inl (cI, 4, .inl (upd f_sound_partCounts 0 0)))]) := by
  refine open_V (cc := cX1_begin) (maxL := 2) (ret := none) (by decide) rfl (Nat.le_of_ble_eq_true rfl) ?_
  intro p e s m below meth c A ls E
  obtain ⟨C, hr, hlocks, hnm, hA, hP, hK, hD, hN, hl⟩ := E
  obtain ⟨hx, hb, hml, hown, hts⟩ := id C
  have hS : va_S A s.heap s.heap [] := va_S.rf
  have hl : lv_has ls 2 [(0, .ref q_sound_laws), (1, .int 0)] := hl
  have inX1 : ∀ w ∈ u_ws RX1 TX1 9, w ∈ wsX1_begin := fun _ h => List.mem_cons_of_mem _ (List.mem_append_right _ h)
  have L22 : Cond.fieldLink RX1 22 "GuessFerry$Laws" "lawStarts" "[I" ∈ wsX1_begin := (List.mem_cons_of_mem _ (List.mem_append_left _ (List.mem_of_getElem? (i := 1) rfl)))
  have L25 : Cond.fieldLink RX1 25 "GuessFerry$Laws" "partCounts" "[I" ∈ wsX1_begin := (List.mem_cons_of_mem _ (List.mem_append_left _ (List.mem_of_getElem? (i := 3) rfl)))
  have L34 : Cond.fieldLink RX1 34 "GuessFerry$Laws" "length" "I" ∈ wsX1_begin := (List.mem_cons_of_mem _ (List.mem_append_left _ (List.mem_of_getElem? (i := 2) rfl)))
  have L57 : Cond.fieldLink RX1 57 "GuessFerry$Laws" "current" "I" ∈ wsX1_begin := (List.mem_cons_of_mem _ (List.mem_append_left _ (List.mem_of_getElem? (i := 0) rfl)))
  refine lv_aload_n hx hb dX1_begin_0 rfl (lv_at hl 0 rfl) ?_
  refine lv_iload_n hx hb dX1_begin_1 rfl (lv_at hl 1 rfl) ?_
  refine q_put (ty := .int) (w2 := [(q_sound_laws, .inr (1, [u_sound_laws_0, u_sound_laws_1, .ref q_sound_lawStarts, .ref q_sound_partCounts, u_sound_laws_4, u_sound_laws_5, .int 0, .int 0, u_sound_laws_8])), (q_sound_lawStarts, .inl (cI, 4, .inl f_sound_lawStarts)), (q_sound_partCounts, .inl (cI, 4, .inl f_sound_partCounts))]) tyX1 tyX1_ok nmX1 C inX1 hK hP hD hS 0 rfl rfl 7 (by decide) rfl L57 rfl (by decide +kernel) (rfl) rfl (Nat.le_of_ble_eq_true rfl) dX1_begin_2 rfl (fun H locs hP hD hS => ?_)
  refine lv_aload_n hx hb dX1_begin_5 rfl (lv_at hl 0 rfl) ?_
  refine q_get (v := .ref q_sound_lawStarts) C inX1 hK hP 0 rfl rfl 2 (by decide) rfl L22 rfl dX1_begin_6 ?_
  refine lv_iload_n hx hb dX1_begin_9 rfl (lv_at hl 1 rfl) ?_
  refine lv_aload_n hx hb dX1_begin_10 rfl (lv_at hl 0 rfl) ?_
  refine q_get (v := .int 0) C inX1 hK hP 0 rfl rfl 6 (by decide) rfl L34 rfl dX1_begin_11 ?_
  refine q_iast (f2 := (upd f_sound_lawStarts 0 0)) (w2 := [(q_sound_laws, .inr (1, [u_sound_laws_0, u_sound_laws_1, .ref q_sound_lawStarts, .ref q_sound_partCounts, u_sound_laws_4, u_sound_laws_5, .int 0, .int 0, u_sound_laws_8])), (q_sound_lawStarts, .inl (cI, 4, .inl (upd f_sound_lawStarts 0 0))), (q_sound_partCounts, .inl (cI, 4, .inl f_sound_partCounts))]) C hK hP hD hS 1 1 rfl rfl (vp_lit (by decide +kernel)) dX1_begin_14 rfl rfl (fun H locs hP hD hS => ?_)
  refine lv_aload_n hx hb dX1_begin_15 rfl (lv_at hl 0 rfl) ?_
  refine q_get (v := .ref q_sound_partCounts) C inX1 hK hP 0 rfl rfl 3 (by decide) rfl L25 rfl dX1_begin_16 ?_
  refine lv_iload_n hx hb dX1_begin_19 rfl (lv_at hl 1 rfl) ?_
  refine lv_iconst (v := 0) hx hb dX1_begin_20 (by decide) ?_
  refine q_iast (f2 := (upd f_sound_partCounts 0 0)) (w2 := [(q_sound_laws, .inr (1, [u_sound_laws_0, u_sound_laws_1, .ref q_sound_lawStarts, .ref q_sound_partCounts, u_sound_laws_4, u_sound_laws_5, .int 0, .int 0, u_sound_laws_8])), (q_sound_lawStarts, .inl (cI, 4, .inl (upd f_sound_lawStarts 0 0))), (q_sound_partCounts, .inl (cI, 4, .inl (upd f_sound_partCounts 0 0)))]) C hK hP hD hS 2 1 rfl rfl (vp_lit (by decide +kernel)) dX1_begin_21 rfl rfl (fun H locs hP hD hS => ?_)
  exact q_vret C hr hlocks hK hP hD hS (Nat.le_of_ble_eq_true rfl) (Nat.le_of_ble_eq_true rfl) dX1_begin_22 (rfl)

set_option maxHeartbeats 4000000 in
set_option maxRecDepth 100000 in
theorem k_Lput0 (l : Launch) (dC : Nat → ClassId) (dI : Nat → Nat → Nat) (cB cI cJ cZ cS : ClassId) (q_sound_laws : Nat) (q_sound_steps : Nat) (u_sound_laws_1 : Value) (u_sound_laws_2 : Value) (u_sound_laws_3 : Value) (u_sound_laws_4 : Value) (u_sound_laws_5 : Value) (u_sound_laws_7 : Value) (u_sound_laws_8 : Value) (f_sound_steps : Nat → Int32) (x1 : Int32) : CV l yX1_put wsX1_put ({ frames := 0, cells := 0, slots := 0, locals := 0 }) (dC, dI) (tysA cB cI cJ cZ cS) [(q_sound_laws, .inr (1, [.ref q_sound_steps, u_sound_laws_1, u_sound_laws_2, u_sound_laws_3, u_sound_laws_4, u_sound_laws_5, .int 0, u_sound_laws_7, u_sound_laws_8])), (q_sound_steps, .inl (cI, 404, .inl f_sound_steps))] [.ref q_sound_laws, .int x1] (fun w => w = [(q_sound_laws, .inr (1, [.ref q_sound_steps, u_sound_laws_1, u_sound_laws_2, u_sound_laws_3, u_sound_laws_4, u_sound_laws_5, .int 1, u_sound_laws_7, u_sound_laws_8])), (q_sound_steps, .inl (cI, 404, .inl (upd f_sound_steps 0 x1)))]) := by
  refine open_V (cc := cX1_put) (maxL := 2) (ret := none) (by decide) rfl (Nat.le_of_ble_eq_true rfl) ?_
  intro p e s m below meth c A ls E
  obtain ⟨C, hr, hlocks, hnm, hA, hP, hK, hD, hN, hl⟩ := E
  obtain ⟨hx, hb, hml, hown, hts⟩ := id C
  have hS : va_S A s.heap s.heap [] := va_S.rf
  have hl : lv_has ls 2 [(0, .ref q_sound_laws), (1, .int x1)] := hl
  have inX1 : ∀ w ∈ u_ws RX1 TX1 9, w ∈ wsX1_put := fun _ h => List.mem_cons_of_mem _ (List.mem_append_right _ h)
  have L15 : Cond.fieldLink RX1 15 "GuessFerry$Laws" "steps" "[I" ∈ wsX1_put := (List.mem_cons_of_mem _ (List.mem_append_left _ (List.mem_of_getElem? (i := 1) rfl)))
  have L34 : Cond.fieldLink RX1 34 "GuessFerry$Laws" "length" "I" ∈ wsX1_put := (List.mem_cons_of_mem _ (List.mem_append_left _ (List.mem_of_getElem? (i := 0) rfl)))
  refine lv_aload_n hx hb dX1_put_0 rfl (lv_at hl 0 rfl) ?_
  refine q_get (v := .int 0) C inX1 hK hP 0 rfl rfl 6 (by decide) rfl L34 rfl dX1_put_1 ?_
  refine lv_sipush (v := 404) hx hb dX1_put_4 (by decide) ?_
  refine lv_icmp_ge (tgt := 30) hx hb dX1_put_7 (by decide) (fun h => absurd h (by decide +kernel)) (fun _ => ?_)
  refine lv_aload_n hx hb dX1_put_10 rfl (lv_at hl 0 rfl) ?_
  refine q_get (v := .ref q_sound_steps) C inX1 hK hP 0 rfl rfl 0 (by decide) rfl L15 rfl dX1_put_11 ?_
  refine lv_aload_n hx hb dX1_put_14 rfl (lv_at hl 0 rfl) ?_
  refine q_get (v := .int 0) C inX1 hK hP 0 rfl rfl 6 (by decide) rfl L34 rfl dX1_put_15 ?_
  refine lv_iload_n hx hb dX1_put_18 rfl (lv_at hl 1 rfl) ?_
  refine q_iast (f2 := (upd f_sound_steps 0 x1)) (w2 := [(q_sound_laws, .inr (1, [.ref q_sound_steps, u_sound_laws_1, u_sound_laws_2, u_sound_laws_3, u_sound_laws_4, u_sound_laws_5, .int 0, u_sound_laws_7, u_sound_laws_8])), (q_sound_steps, .inl (cI, 404, .inl (upd f_sound_steps 0 x1)))]) C hK hP hD hS 1 1 rfl rfl (vp_lit (by decide +kernel)) dX1_put_19 rfl rfl (fun H locs hP hD hS => ?_)
  refine lv_aload_n hx hb dX1_put_20 rfl (lv_at hl 0 rfl) ?_
  refine lv_dup hx hb dX1_put_21 rfl ?_
  refine q_get (v := .int 0) C inX1 hK hP 0 rfl rfl 6 (by decide) rfl L34 rfl dX1_put_22 ?_
  refine lv_iconst (v := 1) hx hb dX1_put_25 (by decide) ?_
  refine lv_iadd hx hb dX1_put_26 ?_
  refine q_top (y := 1) (by decide +kernel) ?_
  refine q_put (ty := .int) (w2 := [(q_sound_laws, .inr (1, [.ref q_sound_steps, u_sound_laws_1, u_sound_laws_2, u_sound_laws_3, u_sound_laws_4, u_sound_laws_5, .int 1, u_sound_laws_7, u_sound_laws_8])), (q_sound_steps, .inl (cI, 404, .inl (upd f_sound_steps 0 x1)))]) tyX1 tyX1_ok nmX1 C inX1 hK hP hD hS 0 rfl rfl 6 (by decide) rfl L34 rfl (by decide +kernel) (rfl) rfl (Nat.le_of_ble_eq_true rfl) dX1_put_27 rfl (fun H locs hP hD hS => ?_)
  exact q_vret C hr hlocks hK hP hD hS (Nat.le_of_ble_eq_true rfl) (Nat.le_of_ble_eq_true rfl) dX1_put_30 (rfl)

set_option maxHeartbeats 4000000 in
set_option maxRecDepth 100000 in
theorem k_putVar (l : Launch) (dC : Nat → ClassId) (dI : Nat → Nat → Nat) (cB cI cJ cZ cS : ClassId) (q_sound_laws : Nat) (q_sound_steps : Nat) (u_sound_laws_1 : Value) (u_sound_laws_2 : Value) (u_sound_laws_3 : Value) (u_sound_laws_4 : Value) (u_sound_laws_5 : Value) (u_sound_laws_7 : Value) (u_sound_laws_8 : Value) (f_sound_steps : Nat → Int32) : CV l yX1_putVar wsX1_putVar ({ frames := 1, cells := 0, slots := 0, locals := 21 }) (dC, dI) (tysA cB cI cJ cZ cS) [(q_sound_laws, .inr (1, [.ref q_sound_steps, u_sound_laws_1, u_sound_laws_2, u_sound_laws_3, u_sound_laws_4, u_sound_laws_5, .int 0, u_sound_laws_7, u_sound_laws_8])), (q_sound_steps, .inl (cI, 404, .inl f_sound_steps))] [.ref q_sound_laws, .int 2] (fun w => w = [(q_sound_laws, .inr (1, [.ref q_sound_steps, u_sound_laws_1, u_sound_laws_2, u_sound_laws_3, u_sound_laws_4, u_sound_laws_5, .int 1, u_sound_laws_7, u_sound_laws_8])), (q_sound_steps, .inl (cI, 404, .inl (upd f_sound_steps 0 (-3))))]) := by
  refine open_V (cc := cX1_putVar) (maxL := 2) (ret := none) (by decide) rfl (Nat.le_of_ble_eq_true rfl) ?_
  intro p e s m below meth c A ls E
  obtain ⟨C, hr, hlocks, hnm, hA, hP, hK, hD, hN, hl⟩ := E
  obtain ⟨hx, hb, hml, hown, hts⟩ := id C
  have hS : va_S A s.heap s.heap [] := va_S.rf
  have hl : lv_has ls 2 [(0, .ref q_sound_laws), (1, .int 2)] := hl
  refine lv_aload_n hx hb dX1_putVar_0 rfl (lv_at hl 0 rfl) ?_
  refine lv_iconst (v := (-1)) hx hb dX1_putVar_1 (by decide) ?_
  refine lv_iload_n hx hb dX1_putVar_2 rfl (lv_at hl 1 rfl) ?_
  refine lv_isub hx hb dX1_putVar_3 ?_
  refine q_top (y := (-3)) (by decide +kernel) ?_
  refine q_gov (wr := []) (va_runV (As := [.int (-3)]) (rest := []) C (k_Lput0 l dC dI cB cI cJ cZ cS (q_sound_laws) (q_sound_steps) (u_sound_laws_1) (u_sound_laws_2) (u_sound_laws_3) (u_sound_laws_4) (u_sound_laws_5) (u_sound_laws_7) (u_sound_laws_8) (f_sound_steps) (-3) _) (cwV 1 hts gX1_putVar_X1_put rfl rfl rfl (by decide +kernel) ⟨Nat.le_of_ble_eq_true rfl, Nat.le_of_ble_eq_true rfl⟩) (q_preV hK hP (ci := 1) (q0 := 0) rfl rfl rfl (q_pre hN hK hP hD [0, 1] rfl (by decide))) rfl rfl hl.1 rfl (lv_room (Nat.le_of_ble_eq_true rfl)) dX1_putVar_4 ⟨Nat.le_of_ble_eq_true rfl, Nat.le_of_ble_eq_true rfl⟩) hP hD hS hA [0, 1] [] rfl rfl (by decide +kernel) (by decide +kernel) (fun w1 H locs hw hP hD hS => ?_)
  obtain rfl := hw
  replace hP : va_P (dC, dI) vwCl [(q_sound_laws, .inr (1, [.ref q_sound_steps, u_sound_laws_1, u_sound_laws_2, u_sound_laws_3, u_sound_laws_4, u_sound_laws_5, .int 1, u_sound_laws_7, u_sound_laws_8])), (q_sound_steps, .inl (cI, 404, .inl (upd f_sound_steps 0 (-3))))] H := hP.sub [0, 1] rfl
  replace hD : va_D A [(q_sound_laws, .inr (1, [.ref q_sound_steps, u_sound_laws_1, u_sound_laws_2, u_sound_laws_3, u_sound_laws_4, u_sound_laws_5, .int 1, u_sound_laws_7, u_sound_laws_8])), (q_sound_steps, .inl (cI, 404, .inl (upd f_sound_steps 0 (-3))))] := hD.sub [0, 1] (by decide) rfl
  exact q_vret C hr hlocks hK hP hD hS (Nat.le_of_ble_eq_true rfl) (Nat.le_of_ble_eq_true rfl) dX1_putVar_7 (rfl)

set_option maxHeartbeats 4000000 in
set_option maxRecDepth 100000 in
theorem k_endPart0 (l : Launch) (dC : Nat → ClassId) (dI : Nat → Nat → Nat) (cB cI cJ cZ cS : ClassId) (q_sound_laws : Nat) (q_sound_partEnds : Nat) (q_sound_partCounts : Nat) (u_sound_laws_0 : Value) (u_sound_laws_2 : Value) (u_sound_laws_4 : Value) (u_sound_laws_5 : Value) (u_sound_laws_8 : Value) (f_sound_partCounts : Nat → Int32) (f_sound_partEnds : Nat → Int32) (h_sound_partCounts_0 : f_sound_partCounts 0 = 0) : CV l yX1_endPart wsX1_endPart ({ frames := 0, cells := 0, slots := 0, locals := 0 }) (dC, dI) (tysA cB cI cJ cZ cS) [(q_sound_laws, .inr (1, [u_sound_laws_0, .ref q_sound_partEnds, u_sound_laws_2, .ref q_sound_partCounts, u_sound_laws_4, u_sound_laws_5, .int 1, .int 0, u_sound_laws_8])), (q_sound_partCounts, .inl (cI, 4, .inl f_sound_partCounts)), (q_sound_partEnds, .inl (cI, 52, .inl f_sound_partEnds))] [.ref q_sound_laws] (fun w => w = [(q_sound_laws, .inr (1, [u_sound_laws_0, .ref q_sound_partEnds, u_sound_laws_2, .ref q_sound_partCounts, u_sound_laws_4, u_sound_laws_5, .int 1, .int 0, u_sound_laws_8])), (q_sound_partCounts, .inl (cI, 4, .inl (upd f_sound_partCounts 0 1))), (q_sound_partEnds, .inl (cI, 52, .inl (upd f_sound_partEnds 0 1)))]) := by
  refine open_V (cc := cX1_endPart) (maxL := 2) (ret := none) (by decide) rfl (Nat.le_of_ble_eq_true rfl) ?_
  intro p e s m below meth c A ls E
  obtain ⟨C, hr, hlocks, hnm, hA, hP, hK, hD, hN, hl⟩ := E
  obtain ⟨hx, hb, hml, hown, hts⟩ := id C
  have hS : va_S A s.heap s.heap [] := va_S.rf
  have hl : lv_has ls 2 [(0, .ref q_sound_laws)] := hl
  have inX1 : ∀ w ∈ u_ws RX1 TX1 9, w ∈ wsX1_endPart := fun _ h => List.mem_cons_of_mem _ (List.mem_append_right _ h)
  have L19 : Cond.fieldLink RX1 19 "GuessFerry$Laws" "partEnds" "[I" ∈ wsX1_endPart := (List.mem_cons_of_mem _ (List.mem_append_left _ (List.mem_of_getElem? (i := 2) rfl)))
  have L25 : Cond.fieldLink RX1 25 "GuessFerry$Laws" "partCounts" "[I" ∈ wsX1_endPart := (List.mem_cons_of_mem _ (List.mem_append_left _ (List.mem_of_getElem? (i := 0) rfl)))
  have L34 : Cond.fieldLink RX1 34 "GuessFerry$Laws" "length" "I" ∈ wsX1_endPart := (List.mem_cons_of_mem _ (List.mem_append_left _ (List.mem_of_getElem? (i := 3) rfl)))
  have L57 : Cond.fieldLink RX1 57 "GuessFerry$Laws" "current" "I" ∈ wsX1_endPart := (List.mem_cons_of_mem _ (List.mem_append_left _ (List.mem_of_getElem? (i := 1) rfl)))
  refine lv_aload_n hx hb dX1_endPart_0 rfl (lv_at hl 0 rfl) ?_
  refine q_get (v := .ref q_sound_partCounts) C inX1 hK hP 0 rfl rfl 3 (by decide) rfl L25 rfl dX1_endPart_1 ?_
  refine lv_aload_n hx hb dX1_endPart_4 rfl (lv_at hl 0 rfl) ?_
  refine q_get (v := .int 0) C inX1 hK hP 0 rfl rfl 7 (by decide) rfl L57 rfl dX1_endPart_5 ?_
  refine q_iald (x := 0) C hK hP 1 1 rfl rfl (vp_lit (by decide +kernel)) dX1_endPart_8 (h_sound_partCounts_0) ?_
  refine lv_istore_n (lv' := [(1, .int 0), (0, .ref q_sound_laws)]) hx hb dX1_endPart_9 rfl hl (by decide) rfl (fun ls hl => ?_)
  refine lv_iload_n hx hb dX1_endPart_10 rfl (lv_at hl 0 rfl) ?_
  refine lv_bipush (v := 13) hx hb dX1_endPart_11 (by decide) ?_
  refine lv_icmp_ge (tgt := 46) hx hb dX1_endPart_13 (by decide) (fun h => absurd h (by decide +kernel)) (fun _ => ?_)
  refine lv_aload_n hx hb dX1_endPart_16 rfl (lv_at hl 1 rfl) ?_
  refine q_get (v := .ref q_sound_partEnds) C inX1 hK hP 0 rfl rfl 1 (by decide) rfl L19 rfl dX1_endPart_17 ?_
  refine lv_aload_n hx hb dX1_endPart_20 rfl (lv_at hl 1 rfl) ?_
  refine q_get (v := .int 0) C inX1 hK hP 0 rfl rfl 7 (by decide) rfl L57 rfl dX1_endPart_21 ?_
  refine lv_bipush (v := 13) hx hb dX1_endPart_24 (by decide) ?_
  refine lv_imul hx hb dX1_endPart_26 ?_
  refine q_top (y := 0) (by decide +kernel) ?_
  refine lv_iload_n hx hb dX1_endPart_27 rfl (lv_at hl 0 rfl) ?_
  refine lv_iadd hx hb dX1_endPart_28 ?_
  refine q_top (y := 0) (by decide +kernel) ?_
  refine lv_aload_n hx hb dX1_endPart_29 rfl (lv_at hl 1 rfl) ?_
  refine q_get (v := .int 1) C inX1 hK hP 0 rfl rfl 6 (by decide) rfl L34 rfl dX1_endPart_30 ?_
  refine q_iast (f2 := (upd f_sound_partEnds 0 1)) (w2 := [(q_sound_laws, .inr (1, [u_sound_laws_0, .ref q_sound_partEnds, u_sound_laws_2, .ref q_sound_partCounts, u_sound_laws_4, u_sound_laws_5, .int 1, .int 0, u_sound_laws_8])), (q_sound_partCounts, .inl (cI, 4, .inl f_sound_partCounts)), (q_sound_partEnds, .inl (cI, 52, .inl (upd f_sound_partEnds 0 1)))]) C hK hP hD hS 2 1 rfl rfl (vp_lit (by decide +kernel)) dX1_endPart_33 rfl rfl (fun H locs hP hD hS => ?_)
  refine lv_aload_n hx hb dX1_endPart_34 rfl (lv_at hl 1 rfl) ?_
  refine q_get (v := .ref q_sound_partCounts) C inX1 hK hP 0 rfl rfl 3 (by decide) rfl L25 rfl dX1_endPart_35 ?_
  refine lv_aload_n hx hb dX1_endPart_38 rfl (lv_at hl 1 rfl) ?_
  refine q_get (v := .int 0) C inX1 hK hP 0 rfl rfl 7 (by decide) rfl L57 rfl dX1_endPart_39 ?_
  refine lv_iload_n hx hb dX1_endPart_42 rfl (lv_at hl 0 rfl) ?_
  refine lv_iconst (v := 1) hx hb dX1_endPart_43 (by decide) ?_
  refine lv_iadd hx hb dX1_endPart_44 ?_
  refine q_top (y := 1) (by decide +kernel) ?_
  refine q_iast (f2 := (upd f_sound_partCounts 0 1)) (w2 := [(q_sound_laws, .inr (1, [u_sound_laws_0, .ref q_sound_partEnds, u_sound_laws_2, .ref q_sound_partCounts, u_sound_laws_4, u_sound_laws_5, .int 1, .int 0, u_sound_laws_8])), (q_sound_partCounts, .inl (cI, 4, .inl (upd f_sound_partCounts 0 1))), (q_sound_partEnds, .inl (cI, 52, .inl (upd f_sound_partEnds 0 1)))]) C hK hP hD hS 1 1 rfl rfl (vp_lit (by decide +kernel)) dX1_endPart_45 rfl rfl (fun H locs hP hD hS => ?_)
  exact q_vret C hr hlocks hK hP hD hS (Nat.le_of_ble_eq_true rfl) (Nat.le_of_ble_eq_true rfl) dX1_endPart_46 (rfl)

set_option maxHeartbeats 4000000 in
set_option maxRecDepth 100000 in
theorem k_begin1 (l : Launch) (dC : Nat → ClassId) (dI : Nat → Nat → Nat) (cB cI cJ cZ cS : ClassId) (q_sound_laws : Nat) (q_sound_lawStarts : Nat) (q_sound_partCounts : Nat) (u_sound_laws_0 : Value) (u_sound_laws_1 : Value) (u_sound_laws_4 : Value) (u_sound_laws_5 : Value) (y_cur : Int32) (u_sound_laws_8 : Value) (f_sound_lawStarts : Nat → Int32) (f_sound_partCounts : Nat → Int32) : CV l yX1_begin wsX1_begin ({ frames := 0, cells := 0, slots := 0, locals := 0 }) (dC, dI) (tysA cB cI cJ cZ cS) [(q_sound_laws, .inr (1, [u_sound_laws_0, u_sound_laws_1, .ref q_sound_lawStarts, .ref q_sound_partCounts, u_sound_laws_4, u_sound_laws_5, .int 1, .int y_cur, u_sound_laws_8])), (q_sound_lawStarts, .inl (cI, 4, .inl f_sound_lawStarts)), (q_sound_partCounts, .inl (cI, 4, .inl f_sound_partCounts))] [.ref q_sound_laws, .int 1] (fun w => w = [(q_sound_laws, .inr (1, [u_sound_laws_0, u_sound_laws_1, .ref q_sound_lawStarts, .ref q_sound_partCounts, u_sound_laws_4, u_sound_laws_5, .int 1, .int 1, u_sound_laws_8])), (q_sound_lawStarts, .inl (cI, 4, .inl (upd f_sound_lawStarts 1 1))), (q_sound_partCounts, .inl (cI, 4, .inl (upd f_sound_partCounts 1 0)))]) := by
  refine open_V (cc := cX1_begin) (maxL := 2) (ret := none) (by decide) rfl (Nat.le_of_ble_eq_true rfl) ?_
  intro p e s m below meth c A ls E
  obtain ⟨C, hr, hlocks, hnm, hA, hP, hK, hD, hN, hl⟩ := E
  obtain ⟨hx, hb, hml, hown, hts⟩ := id C
  have hS : va_S A s.heap s.heap [] := va_S.rf
  have hl : lv_has ls 2 [(0, .ref q_sound_laws), (1, .int 1)] := hl
  have inX1 : ∀ w ∈ u_ws RX1 TX1 9, w ∈ wsX1_begin := fun _ h => List.mem_cons_of_mem _ (List.mem_append_right _ h)
  have L22 : Cond.fieldLink RX1 22 "GuessFerry$Laws" "lawStarts" "[I" ∈ wsX1_begin := (List.mem_cons_of_mem _ (List.mem_append_left _ (List.mem_of_getElem? (i := 1) rfl)))
  have L25 : Cond.fieldLink RX1 25 "GuessFerry$Laws" "partCounts" "[I" ∈ wsX1_begin := (List.mem_cons_of_mem _ (List.mem_append_left _ (List.mem_of_getElem? (i := 3) rfl)))
  have L34 : Cond.fieldLink RX1 34 "GuessFerry$Laws" "length" "I" ∈ wsX1_begin := (List.mem_cons_of_mem _ (List.mem_append_left _ (List.mem_of_getElem? (i := 2) rfl)))
  have L57 : Cond.fieldLink RX1 57 "GuessFerry$Laws" "current" "I" ∈ wsX1_begin := (List.mem_cons_of_mem _ (List.mem_append_left _ (List.mem_of_getElem? (i := 0) rfl)))
  refine lv_aload_n hx hb dX1_begin_0 rfl (lv_at hl 0 rfl) ?_
  refine lv_iload_n hx hb dX1_begin_1 rfl (lv_at hl 1 rfl) ?_
  refine q_put (ty := .int) (w2 := [(q_sound_laws, .inr (1, [u_sound_laws_0, u_sound_laws_1, .ref q_sound_lawStarts, .ref q_sound_partCounts, u_sound_laws_4, u_sound_laws_5, .int 1, .int 1, u_sound_laws_8])), (q_sound_lawStarts, .inl (cI, 4, .inl f_sound_lawStarts)), (q_sound_partCounts, .inl (cI, 4, .inl f_sound_partCounts))]) tyX1 tyX1_ok nmX1 C inX1 hK hP hD hS 0 rfl rfl 7 (by decide) rfl L57 rfl (by decide +kernel) (rfl) rfl (Nat.le_of_ble_eq_true rfl) dX1_begin_2 rfl (fun H locs hP hD hS => ?_)
  refine lv_aload_n hx hb dX1_begin_5 rfl (lv_at hl 0 rfl) ?_
  refine q_get (v := .ref q_sound_lawStarts) C inX1 hK hP 0 rfl rfl 2 (by decide) rfl L22 rfl dX1_begin_6 ?_
  refine lv_iload_n hx hb dX1_begin_9 rfl (lv_at hl 1 rfl) ?_
  refine lv_aload_n hx hb dX1_begin_10 rfl (lv_at hl 0 rfl) ?_
  refine q_get (v := .int 1) C inX1 hK hP 0 rfl rfl 6 (by decide) rfl L34 rfl dX1_begin_11 ?_
  refine q_iast (f2 := (upd f_sound_lawStarts 1 1)) (w2 := [(q_sound_laws, .inr (1, [u_sound_laws_0, u_sound_laws_1, .ref q_sound_lawStarts, .ref q_sound_partCounts, u_sound_laws_4, u_sound_laws_5, .int 1, .int 1, u_sound_laws_8])), (q_sound_lawStarts, .inl (cI, 4, .inl (upd f_sound_lawStarts 1 1))), (q_sound_partCounts, .inl (cI, 4, .inl f_sound_partCounts))]) C hK hP hD hS 1 1 rfl rfl (vp_lit (by decide +kernel)) dX1_begin_14 rfl rfl (fun H locs hP hD hS => ?_)
  refine lv_aload_n hx hb dX1_begin_15 rfl (lv_at hl 0 rfl) ?_
  refine q_get (v := .ref q_sound_partCounts) C inX1 hK hP 0 rfl rfl 3 (by decide) rfl L25 rfl dX1_begin_16 ?_
  refine lv_iload_n hx hb dX1_begin_19 rfl (lv_at hl 1 rfl) ?_
  refine lv_iconst (v := 0) hx hb dX1_begin_20 (by decide) ?_
  refine q_iast (f2 := (upd f_sound_partCounts 1 0)) (w2 := [(q_sound_laws, .inr (1, [u_sound_laws_0, u_sound_laws_1, .ref q_sound_lawStarts, .ref q_sound_partCounts, u_sound_laws_4, u_sound_laws_5, .int 1, .int 1, u_sound_laws_8])), (q_sound_lawStarts, .inl (cI, 4, .inl (upd f_sound_lawStarts 1 1))), (q_sound_partCounts, .inl (cI, 4, .inl (upd f_sound_partCounts 1 0)))]) C hK hP hD hS 2 1 rfl rfl (vp_lit (by decide +kernel)) dX1_begin_21 rfl rfl (fun H locs hP hD hS => ?_)
  exact q_vret C hr hlocks hK hP hD hS (Nat.le_of_ble_eq_true rfl) (Nat.le_of_ble_eq_true rfl) dX1_begin_22 (rfl)

set_option maxHeartbeats 4000000 in
set_option maxRecDepth 100000 in
theorem k_Lput1 (l : Launch) (dC : Nat → ClassId) (dI : Nat → Nat → Nat) (cB cI cJ cZ cS : ClassId) (q_sound_laws : Nat) (q_sound_steps : Nat) (u_sound_laws_1 : Value) (u_sound_laws_2 : Value) (u_sound_laws_3 : Value) (u_sound_laws_4 : Value) (u_sound_laws_5 : Value) (u_sound_laws_7 : Value) (u_sound_laws_8 : Value) (f_sound_steps : Nat → Int32) (x1 : Int32) : CV l yX1_put wsX1_put ({ frames := 0, cells := 0, slots := 0, locals := 0 }) (dC, dI) (tysA cB cI cJ cZ cS) [(q_sound_laws, .inr (1, [.ref q_sound_steps, u_sound_laws_1, u_sound_laws_2, u_sound_laws_3, u_sound_laws_4, u_sound_laws_5, .int 1, u_sound_laws_7, u_sound_laws_8])), (q_sound_steps, .inl (cI, 404, .inl f_sound_steps))] [.ref q_sound_laws, .int x1] (fun w => w = [(q_sound_laws, .inr (1, [.ref q_sound_steps, u_sound_laws_1, u_sound_laws_2, u_sound_laws_3, u_sound_laws_4, u_sound_laws_5, .int 2, u_sound_laws_7, u_sound_laws_8])), (q_sound_steps, .inl (cI, 404, .inl (upd f_sound_steps 1 x1)))]) := by
  refine open_V (cc := cX1_put) (maxL := 2) (ret := none) (by decide) rfl (Nat.le_of_ble_eq_true rfl) ?_
  intro p e s m below meth c A ls E
  obtain ⟨C, hr, hlocks, hnm, hA, hP, hK, hD, hN, hl⟩ := E
  obtain ⟨hx, hb, hml, hown, hts⟩ := id C
  have hS : va_S A s.heap s.heap [] := va_S.rf
  have hl : lv_has ls 2 [(0, .ref q_sound_laws), (1, .int x1)] := hl
  have inX1 : ∀ w ∈ u_ws RX1 TX1 9, w ∈ wsX1_put := fun _ h => List.mem_cons_of_mem _ (List.mem_append_right _ h)
  have L15 : Cond.fieldLink RX1 15 "GuessFerry$Laws" "steps" "[I" ∈ wsX1_put := (List.mem_cons_of_mem _ (List.mem_append_left _ (List.mem_of_getElem? (i := 1) rfl)))
  have L34 : Cond.fieldLink RX1 34 "GuessFerry$Laws" "length" "I" ∈ wsX1_put := (List.mem_cons_of_mem _ (List.mem_append_left _ (List.mem_of_getElem? (i := 0) rfl)))
  refine lv_aload_n hx hb dX1_put_0 rfl (lv_at hl 0 rfl) ?_
  refine q_get (v := .int 1) C inX1 hK hP 0 rfl rfl 6 (by decide) rfl L34 rfl dX1_put_1 ?_
  refine lv_sipush (v := 404) hx hb dX1_put_4 (by decide) ?_
  refine lv_icmp_ge (tgt := 30) hx hb dX1_put_7 (by decide) (fun h => absurd h (by decide +kernel)) (fun _ => ?_)
  refine lv_aload_n hx hb dX1_put_10 rfl (lv_at hl 0 rfl) ?_
  refine q_get (v := .ref q_sound_steps) C inX1 hK hP 0 rfl rfl 0 (by decide) rfl L15 rfl dX1_put_11 ?_
  refine lv_aload_n hx hb dX1_put_14 rfl (lv_at hl 0 rfl) ?_
  refine q_get (v := .int 1) C inX1 hK hP 0 rfl rfl 6 (by decide) rfl L34 rfl dX1_put_15 ?_
  refine lv_iload_n hx hb dX1_put_18 rfl (lv_at hl 1 rfl) ?_
  refine q_iast (f2 := (upd f_sound_steps 1 x1)) (w2 := [(q_sound_laws, .inr (1, [.ref q_sound_steps, u_sound_laws_1, u_sound_laws_2, u_sound_laws_3, u_sound_laws_4, u_sound_laws_5, .int 1, u_sound_laws_7, u_sound_laws_8])), (q_sound_steps, .inl (cI, 404, .inl (upd f_sound_steps 1 x1)))]) C hK hP hD hS 1 1 rfl rfl (vp_lit (by decide +kernel)) dX1_put_19 rfl rfl (fun H locs hP hD hS => ?_)
  refine lv_aload_n hx hb dX1_put_20 rfl (lv_at hl 0 rfl) ?_
  refine lv_dup hx hb dX1_put_21 rfl ?_
  refine q_get (v := .int 1) C inX1 hK hP 0 rfl rfl 6 (by decide) rfl L34 rfl dX1_put_22 ?_
  refine lv_iconst (v := 1) hx hb dX1_put_25 (by decide) ?_
  refine lv_iadd hx hb dX1_put_26 ?_
  refine q_top (y := 2) (by decide +kernel) ?_
  refine q_put (ty := .int) (w2 := [(q_sound_laws, .inr (1, [.ref q_sound_steps, u_sound_laws_1, u_sound_laws_2, u_sound_laws_3, u_sound_laws_4, u_sound_laws_5, .int 2, u_sound_laws_7, u_sound_laws_8])), (q_sound_steps, .inl (cI, 404, .inl (upd f_sound_steps 1 x1)))]) tyX1 tyX1_ok nmX1 C inX1 hK hP hD hS 0 rfl rfl 6 (by decide) rfl L34 rfl (by decide +kernel) (rfl) rfl (Nat.le_of_ble_eq_true rfl) dX1_put_27 rfl (fun H locs hP hD hS => ?_)
  exact q_vret C hr hlocks hK hP hD hS (Nat.le_of_ble_eq_true rfl) (Nat.le_of_ble_eq_true rfl) dX1_put_30 (rfl)

set_option maxHeartbeats 4000000 in
set_option maxRecDepth 100000 in
theorem k_putNumber1 (l : Launch) (dC : Nat → ClassId) (dI : Nat → Nat → Nat) (cB cI cJ cZ cS : ClassId) (q_sound_laws : Nat) (q_sound_steps : Nat) (u_sound_laws_1 : Value) (u_sound_laws_2 : Value) (u_sound_laws_3 : Value) (u_sound_laws_4 : Value) (u_sound_laws_5 : Value) (u_sound_laws_7 : Value) (u_sound_laws_8 : Value) (f_sound_steps : Nat → Int32) : CV l yX1_putNumber wsX1_putNumber ({ frames := 1, cells := 0, slots := 0, locals := 21 }) (dC, dI) (tysA cB cI cJ cZ cS) [(q_sound_laws, .inr (1, [.ref q_sound_steps, u_sound_laws_1, u_sound_laws_2, u_sound_laws_3, u_sound_laws_4, u_sound_laws_5, .int 1, u_sound_laws_7, u_sound_laws_8])), (q_sound_steps, .inl (cI, 404, .inl f_sound_steps))] [.ref q_sound_laws, .int 1] (fun w => w = [(q_sound_laws, .inr (1, [.ref q_sound_steps, u_sound_laws_1, u_sound_laws_2, u_sound_laws_3, u_sound_laws_4, u_sound_laws_5, .int 2, u_sound_laws_7, u_sound_laws_8])), (q_sound_steps, .inl (cI, 404, .inl (upd f_sound_steps 1 1)))]) := by
  refine open_V (cc := cX1_putNumber) (maxL := 2) (ret := none) (by decide) rfl (Nat.le_of_ble_eq_true rfl) ?_
  intro p e s m below meth c A ls E
  obtain ⟨C, hr, hlocks, hnm, hA, hP, hK, hD, hN, hl⟩ := E
  obtain ⟨hx, hb, hml, hown, hts⟩ := id C
  have hS : va_S A s.heap s.heap [] := va_S.rf
  have hl : lv_has ls 2 [(0, .ref q_sound_laws), (1, .int 1)] := hl
  refine lv_aload_n hx hb dX1_putNumber_0 rfl (lv_at hl 0 rfl) ?_
  refine lv_iload_n hx hb dX1_putNumber_1 rfl (lv_at hl 1 rfl) ?_
  refine q_gov (wr := []) (va_runV (As := [.int 1]) (rest := []) C (k_Lput1 l dC dI cB cI cJ cZ cS (q_sound_laws) (q_sound_steps) (u_sound_laws_1) (u_sound_laws_2) (u_sound_laws_3) (u_sound_laws_4) (u_sound_laws_5) (u_sound_laws_7) (u_sound_laws_8) (f_sound_steps) 1 _) (cwV 1 hts gX1_putNumber_X1_put rfl rfl rfl (by decide +kernel) ⟨Nat.le_of_ble_eq_true rfl, Nat.le_of_ble_eq_true rfl⟩) (q_preV hK hP (ci := 1) (q0 := 0) rfl rfl rfl (q_pre hN hK hP hD [0, 1] rfl (by decide))) rfl rfl hl.1 rfl (lv_room (Nat.le_of_ble_eq_true rfl)) dX1_putNumber_2 ⟨Nat.le_of_ble_eq_true rfl, Nat.le_of_ble_eq_true rfl⟩) hP hD hS hA [0, 1] [] rfl rfl (by decide +kernel) (by decide +kernel) (fun w1 H locs hw hP hD hS => ?_)
  obtain rfl := hw
  replace hP : va_P (dC, dI) vwCl [(q_sound_laws, .inr (1, [.ref q_sound_steps, u_sound_laws_1, u_sound_laws_2, u_sound_laws_3, u_sound_laws_4, u_sound_laws_5, .int 2, u_sound_laws_7, u_sound_laws_8])), (q_sound_steps, .inl (cI, 404, .inl (upd f_sound_steps 1 1)))] H := hP.sub [0, 1] rfl
  replace hD : va_D A [(q_sound_laws, .inr (1, [.ref q_sound_steps, u_sound_laws_1, u_sound_laws_2, u_sound_laws_3, u_sound_laws_4, u_sound_laws_5, .int 2, u_sound_laws_7, u_sound_laws_8])), (q_sound_steps, .inl (cI, 404, .inl (upd f_sound_steps 1 1)))] := hD.sub [0, 1] (by decide) rfl
  exact q_vret C hr hlocks hK hP hD hS (Nat.le_of_ble_eq_true rfl) (Nat.le_of_ble_eq_true rfl) dX1_putNumber_5 (rfl)

set_option maxHeartbeats 4000000 in
set_option maxRecDepth 100000 in
theorem k_endPart1 (l : Launch) (dC : Nat → ClassId) (dI : Nat → Nat → Nat) (cB cI cJ cZ cS : ClassId) (q_sound_laws : Nat) (q_sound_partEnds : Nat) (q_sound_partCounts : Nat) (u_sound_laws_0 : Value) (u_sound_laws_2 : Value) (u_sound_laws_4 : Value) (u_sound_laws_5 : Value) (u_sound_laws_8 : Value) (f_sound_partCounts : Nat → Int32) (f_sound_partEnds : Nat → Int32) (h_sound_partCounts_1 : f_sound_partCounts 1 = 0) : CV l yX1_endPart wsX1_endPart ({ frames := 0, cells := 0, slots := 0, locals := 0 }) (dC, dI) (tysA cB cI cJ cZ cS) [(q_sound_laws, .inr (1, [u_sound_laws_0, .ref q_sound_partEnds, u_sound_laws_2, .ref q_sound_partCounts, u_sound_laws_4, u_sound_laws_5, .int 2, .int 1, u_sound_laws_8])), (q_sound_partCounts, .inl (cI, 4, .inl f_sound_partCounts)), (q_sound_partEnds, .inl (cI, 52, .inl f_sound_partEnds))] [.ref q_sound_laws] (fun w => w = [(q_sound_laws, .inr (1, [u_sound_laws_0, .ref q_sound_partEnds, u_sound_laws_2, .ref q_sound_partCounts, u_sound_laws_4, u_sound_laws_5, .int 2, .int 1, u_sound_laws_8])), (q_sound_partCounts, .inl (cI, 4, .inl (upd f_sound_partCounts 1 1))), (q_sound_partEnds, .inl (cI, 52, .inl (upd f_sound_partEnds 13 2)))]) := by
  refine open_V (cc := cX1_endPart) (maxL := 2) (ret := none) (by decide) rfl (Nat.le_of_ble_eq_true rfl) ?_
  intro p e s m below meth c A ls E
  obtain ⟨C, hr, hlocks, hnm, hA, hP, hK, hD, hN, hl⟩ := E
  obtain ⟨hx, hb, hml, hown, hts⟩ := id C
  have hS : va_S A s.heap s.heap [] := va_S.rf
  have hl : lv_has ls 2 [(0, .ref q_sound_laws)] := hl
  have inX1 : ∀ w ∈ u_ws RX1 TX1 9, w ∈ wsX1_endPart := fun _ h => List.mem_cons_of_mem _ (List.mem_append_right _ h)
  have L19 : Cond.fieldLink RX1 19 "GuessFerry$Laws" "partEnds" "[I" ∈ wsX1_endPart := (List.mem_cons_of_mem _ (List.mem_append_left _ (List.mem_of_getElem? (i := 2) rfl)))
  have L25 : Cond.fieldLink RX1 25 "GuessFerry$Laws" "partCounts" "[I" ∈ wsX1_endPart := (List.mem_cons_of_mem _ (List.mem_append_left _ (List.mem_of_getElem? (i := 0) rfl)))
  have L34 : Cond.fieldLink RX1 34 "GuessFerry$Laws" "length" "I" ∈ wsX1_endPart := (List.mem_cons_of_mem _ (List.mem_append_left _ (List.mem_of_getElem? (i := 3) rfl)))
  have L57 : Cond.fieldLink RX1 57 "GuessFerry$Laws" "current" "I" ∈ wsX1_endPart := (List.mem_cons_of_mem _ (List.mem_append_left _ (List.mem_of_getElem? (i := 1) rfl)))
  refine lv_aload_n hx hb dX1_endPart_0 rfl (lv_at hl 0 rfl) ?_
  refine q_get (v := .ref q_sound_partCounts) C inX1 hK hP 0 rfl rfl 3 (by decide) rfl L25 rfl dX1_endPart_1 ?_
  refine lv_aload_n hx hb dX1_endPart_4 rfl (lv_at hl 0 rfl) ?_
  refine q_get (v := .int 1) C inX1 hK hP 0 rfl rfl 7 (by decide) rfl L57 rfl dX1_endPart_5 ?_
  refine q_iald (x := 0) C hK hP 1 1 rfl rfl (vp_lit (by decide +kernel)) dX1_endPart_8 (h_sound_partCounts_1) ?_
  refine lv_istore_n (lv' := [(1, .int 0), (0, .ref q_sound_laws)]) hx hb dX1_endPart_9 rfl hl (by decide) rfl (fun ls hl => ?_)
  refine lv_iload_n hx hb dX1_endPart_10 rfl (lv_at hl 0 rfl) ?_
  refine lv_bipush (v := 13) hx hb dX1_endPart_11 (by decide) ?_
  refine lv_icmp_ge (tgt := 46) hx hb dX1_endPart_13 (by decide) (fun h => absurd h (by decide +kernel)) (fun _ => ?_)
  refine lv_aload_n hx hb dX1_endPart_16 rfl (lv_at hl 1 rfl) ?_
  refine q_get (v := .ref q_sound_partEnds) C inX1 hK hP 0 rfl rfl 1 (by decide) rfl L19 rfl dX1_endPart_17 ?_
  refine lv_aload_n hx hb dX1_endPart_20 rfl (lv_at hl 1 rfl) ?_
  refine q_get (v := .int 1) C inX1 hK hP 0 rfl rfl 7 (by decide) rfl L57 rfl dX1_endPart_21 ?_
  refine lv_bipush (v := 13) hx hb dX1_endPart_24 (by decide) ?_
  refine lv_imul hx hb dX1_endPart_26 ?_
  refine q_top (y := 13) (by decide +kernel) ?_
  refine lv_iload_n hx hb dX1_endPart_27 rfl (lv_at hl 0 rfl) ?_
  refine lv_iadd hx hb dX1_endPart_28 ?_
  refine q_top (y := 13) (by decide +kernel) ?_
  refine lv_aload_n hx hb dX1_endPart_29 rfl (lv_at hl 1 rfl) ?_
  refine q_get (v := .int 2) C inX1 hK hP 0 rfl rfl 6 (by decide) rfl L34 rfl dX1_endPart_30 ?_
  refine q_iast (f2 := (upd f_sound_partEnds 13 2)) (w2 := [(q_sound_laws, .inr (1, [u_sound_laws_0, .ref q_sound_partEnds, u_sound_laws_2, .ref q_sound_partCounts, u_sound_laws_4, u_sound_laws_5, .int 2, .int 1, u_sound_laws_8])), (q_sound_partCounts, .inl (cI, 4, .inl f_sound_partCounts)), (q_sound_partEnds, .inl (cI, 52, .inl (upd f_sound_partEnds 13 2)))]) C hK hP hD hS 2 1 rfl rfl (vp_lit (by decide +kernel)) dX1_endPart_33 rfl rfl (fun H locs hP hD hS => ?_)
  refine lv_aload_n hx hb dX1_endPart_34 rfl (lv_at hl 1 rfl) ?_
  refine q_get (v := .ref q_sound_partCounts) C inX1 hK hP 0 rfl rfl 3 (by decide) rfl L25 rfl dX1_endPart_35 ?_
  refine lv_aload_n hx hb dX1_endPart_38 rfl (lv_at hl 1 rfl) ?_
  refine q_get (v := .int 1) C inX1 hK hP 0 rfl rfl 7 (by decide) rfl L57 rfl dX1_endPart_39 ?_
  refine lv_iload_n hx hb dX1_endPart_42 rfl (lv_at hl 0 rfl) ?_
  refine lv_iconst (v := 1) hx hb dX1_endPart_43 (by decide) ?_
  refine lv_iadd hx hb dX1_endPart_44 ?_
  refine q_top (y := 1) (by decide +kernel) ?_
  refine q_iast (f2 := (upd f_sound_partCounts 1 1)) (w2 := [(q_sound_laws, .inr (1, [u_sound_laws_0, .ref q_sound_partEnds, u_sound_laws_2, .ref q_sound_partCounts, u_sound_laws_4, u_sound_laws_5, .int 2, .int 1, u_sound_laws_8])), (q_sound_partCounts, .inl (cI, 4, .inl (upd f_sound_partCounts 1 1))), (q_sound_partEnds, .inl (cI, 52, .inl (upd f_sound_partEnds 13 2)))]) C hK hP hD hS 1 1 rfl rfl (vp_lit (by decide +kernel)) dX1_endPart_45 rfl rfl (fun H locs hP hD hS => ?_)
  exact q_vret C hr hlocks hK hP hD hS (Nat.le_of_ble_eq_true rfl) (Nat.le_of_ble_eq_true rfl) dX1_endPart_46 (rfl)

set_option maxHeartbeats 4000000 in
set_option maxRecDepth 100000 in
theorem k_begin2 (l : Launch) (dC : Nat → ClassId) (dI : Nat → Nat → Nat) (cB cI cJ cZ cS : ClassId) (q_sound_laws : Nat) (q_sound_lawStarts : Nat) (q_sound_partCounts : Nat) (u_sound_laws_0 : Value) (u_sound_laws_1 : Value) (u_sound_laws_4 : Value) (u_sound_laws_5 : Value) (y_cur : Int32) (u_sound_laws_8 : Value) (f_sound_lawStarts : Nat → Int32) (f_sound_partCounts : Nat → Int32) : CV l yX1_begin wsX1_begin ({ frames := 0, cells := 0, slots := 0, locals := 0 }) (dC, dI) (tysA cB cI cJ cZ cS) [(q_sound_laws, .inr (1, [u_sound_laws_0, u_sound_laws_1, .ref q_sound_lawStarts, .ref q_sound_partCounts, u_sound_laws_4, u_sound_laws_5, .int 2, .int y_cur, u_sound_laws_8])), (q_sound_lawStarts, .inl (cI, 4, .inl f_sound_lawStarts)), (q_sound_partCounts, .inl (cI, 4, .inl f_sound_partCounts))] [.ref q_sound_laws, .int 2] (fun w => w = [(q_sound_laws, .inr (1, [u_sound_laws_0, u_sound_laws_1, .ref q_sound_lawStarts, .ref q_sound_partCounts, u_sound_laws_4, u_sound_laws_5, .int 2, .int 2, u_sound_laws_8])), (q_sound_lawStarts, .inl (cI, 4, .inl (upd f_sound_lawStarts 2 2))), (q_sound_partCounts, .inl (cI, 4, .inl (upd f_sound_partCounts 2 0)))]) := by
  refine open_V (cc := cX1_begin) (maxL := 2) (ret := none) (by decide) rfl (Nat.le_of_ble_eq_true rfl) ?_
  intro p e s m below meth c A ls E
  obtain ⟨C, hr, hlocks, hnm, hA, hP, hK, hD, hN, hl⟩ := E
  obtain ⟨hx, hb, hml, hown, hts⟩ := id C
  have hS : va_S A s.heap s.heap [] := va_S.rf
  have hl : lv_has ls 2 [(0, .ref q_sound_laws), (1, .int 2)] := hl
  have inX1 : ∀ w ∈ u_ws RX1 TX1 9, w ∈ wsX1_begin := fun _ h => List.mem_cons_of_mem _ (List.mem_append_right _ h)
  have L22 : Cond.fieldLink RX1 22 "GuessFerry$Laws" "lawStarts" "[I" ∈ wsX1_begin := (List.mem_cons_of_mem _ (List.mem_append_left _ (List.mem_of_getElem? (i := 1) rfl)))
  have L25 : Cond.fieldLink RX1 25 "GuessFerry$Laws" "partCounts" "[I" ∈ wsX1_begin := (List.mem_cons_of_mem _ (List.mem_append_left _ (List.mem_of_getElem? (i := 3) rfl)))
  have L34 : Cond.fieldLink RX1 34 "GuessFerry$Laws" "length" "I" ∈ wsX1_begin := (List.mem_cons_of_mem _ (List.mem_append_left _ (List.mem_of_getElem? (i := 2) rfl)))
  have L57 : Cond.fieldLink RX1 57 "GuessFerry$Laws" "current" "I" ∈ wsX1_begin := (List.mem_cons_of_mem _ (List.mem_append_left _ (List.mem_of_getElem? (i := 0) rfl)))
  refine lv_aload_n hx hb dX1_begin_0 rfl (lv_at hl 0 rfl) ?_
  refine lv_iload_n hx hb dX1_begin_1 rfl (lv_at hl 1 rfl) ?_
  refine q_put (ty := .int) (w2 := [(q_sound_laws, .inr (1, [u_sound_laws_0, u_sound_laws_1, .ref q_sound_lawStarts, .ref q_sound_partCounts, u_sound_laws_4, u_sound_laws_5, .int 2, .int 2, u_sound_laws_8])), (q_sound_lawStarts, .inl (cI, 4, .inl f_sound_lawStarts)), (q_sound_partCounts, .inl (cI, 4, .inl f_sound_partCounts))]) tyX1 tyX1_ok nmX1 C inX1 hK hP hD hS 0 rfl rfl 7 (by decide) rfl L57 rfl (by decide +kernel) (rfl) rfl (Nat.le_of_ble_eq_true rfl) dX1_begin_2 rfl (fun H locs hP hD hS => ?_)
  refine lv_aload_n hx hb dX1_begin_5 rfl (lv_at hl 0 rfl) ?_
  refine q_get (v := .ref q_sound_lawStarts) C inX1 hK hP 0 rfl rfl 2 (by decide) rfl L22 rfl dX1_begin_6 ?_
  refine lv_iload_n hx hb dX1_begin_9 rfl (lv_at hl 1 rfl) ?_
  refine lv_aload_n hx hb dX1_begin_10 rfl (lv_at hl 0 rfl) ?_
  refine q_get (v := .int 2) C inX1 hK hP 0 rfl rfl 6 (by decide) rfl L34 rfl dX1_begin_11 ?_
  refine q_iast (f2 := (upd f_sound_lawStarts 2 2)) (w2 := [(q_sound_laws, .inr (1, [u_sound_laws_0, u_sound_laws_1, .ref q_sound_lawStarts, .ref q_sound_partCounts, u_sound_laws_4, u_sound_laws_5, .int 2, .int 2, u_sound_laws_8])), (q_sound_lawStarts, .inl (cI, 4, .inl (upd f_sound_lawStarts 2 2))), (q_sound_partCounts, .inl (cI, 4, .inl f_sound_partCounts))]) C hK hP hD hS 1 1 rfl rfl (vp_lit (by decide +kernel)) dX1_begin_14 rfl rfl (fun H locs hP hD hS => ?_)
  refine lv_aload_n hx hb dX1_begin_15 rfl (lv_at hl 0 rfl) ?_
  refine q_get (v := .ref q_sound_partCounts) C inX1 hK hP 0 rfl rfl 3 (by decide) rfl L25 rfl dX1_begin_16 ?_
  refine lv_iload_n hx hb dX1_begin_19 rfl (lv_at hl 1 rfl) ?_
  refine lv_iconst (v := 0) hx hb dX1_begin_20 (by decide) ?_
  refine q_iast (f2 := (upd f_sound_partCounts 2 0)) (w2 := [(q_sound_laws, .inr (1, [u_sound_laws_0, u_sound_laws_1, .ref q_sound_lawStarts, .ref q_sound_partCounts, u_sound_laws_4, u_sound_laws_5, .int 2, .int 2, u_sound_laws_8])), (q_sound_lawStarts, .inl (cI, 4, .inl (upd f_sound_lawStarts 2 2))), (q_sound_partCounts, .inl (cI, 4, .inl (upd f_sound_partCounts 2 0)))]) C hK hP hD hS 2 1 rfl rfl (vp_lit (by decide +kernel)) dX1_begin_21 rfl rfl (fun H locs hP hD hS => ?_)
  exact q_vret C hr hlocks hK hP hD hS (Nat.le_of_ble_eq_true rfl) (Nat.le_of_ble_eq_true rfl) dX1_begin_22 (rfl)

set_option maxHeartbeats 4000000 in
set_option maxRecDepth 100000 in
theorem k_Lput2 (l : Launch) (dC : Nat → ClassId) (dI : Nat → Nat → Nat) (cB cI cJ cZ cS : ClassId) (q_sound_laws : Nat) (q_sound_steps : Nat) (u_sound_laws_1 : Value) (u_sound_laws_2 : Value) (u_sound_laws_3 : Value) (u_sound_laws_4 : Value) (u_sound_laws_5 : Value) (u_sound_laws_7 : Value) (u_sound_laws_8 : Value) (f_sound_steps : Nat → Int32) (x1 : Int32) : CV l yX1_put wsX1_put ({ frames := 0, cells := 0, slots := 0, locals := 0 }) (dC, dI) (tysA cB cI cJ cZ cS) [(q_sound_laws, .inr (1, [.ref q_sound_steps, u_sound_laws_1, u_sound_laws_2, u_sound_laws_3, u_sound_laws_4, u_sound_laws_5, .int 2, u_sound_laws_7, u_sound_laws_8])), (q_sound_steps, .inl (cI, 404, .inl f_sound_steps))] [.ref q_sound_laws, .int x1] (fun w => w = [(q_sound_laws, .inr (1, [.ref q_sound_steps, u_sound_laws_1, u_sound_laws_2, u_sound_laws_3, u_sound_laws_4, u_sound_laws_5, .int 3, u_sound_laws_7, u_sound_laws_8])), (q_sound_steps, .inl (cI, 404, .inl (upd f_sound_steps 2 x1)))]) := by
  refine open_V (cc := cX1_put) (maxL := 2) (ret := none) (by decide) rfl (Nat.le_of_ble_eq_true rfl) ?_
  intro p e s m below meth c A ls E
  obtain ⟨C, hr, hlocks, hnm, hA, hP, hK, hD, hN, hl⟩ := E
  obtain ⟨hx, hb, hml, hown, hts⟩ := id C
  have hS : va_S A s.heap s.heap [] := va_S.rf
  have hl : lv_has ls 2 [(0, .ref q_sound_laws), (1, .int x1)] := hl
  have inX1 : ∀ w ∈ u_ws RX1 TX1 9, w ∈ wsX1_put := fun _ h => List.mem_cons_of_mem _ (List.mem_append_right _ h)
  have L15 : Cond.fieldLink RX1 15 "GuessFerry$Laws" "steps" "[I" ∈ wsX1_put := (List.mem_cons_of_mem _ (List.mem_append_left _ (List.mem_of_getElem? (i := 1) rfl)))
  have L34 : Cond.fieldLink RX1 34 "GuessFerry$Laws" "length" "I" ∈ wsX1_put := (List.mem_cons_of_mem _ (List.mem_append_left _ (List.mem_of_getElem? (i := 0) rfl)))
  refine lv_aload_n hx hb dX1_put_0 rfl (lv_at hl 0 rfl) ?_
  refine q_get (v := .int 2) C inX1 hK hP 0 rfl rfl 6 (by decide) rfl L34 rfl dX1_put_1 ?_
  refine lv_sipush (v := 404) hx hb dX1_put_4 (by decide) ?_
  refine lv_icmp_ge (tgt := 30) hx hb dX1_put_7 (by decide) (fun h => absurd h (by decide +kernel)) (fun _ => ?_)
  refine lv_aload_n hx hb dX1_put_10 rfl (lv_at hl 0 rfl) ?_
  refine q_get (v := .ref q_sound_steps) C inX1 hK hP 0 rfl rfl 0 (by decide) rfl L15 rfl dX1_put_11 ?_
  refine lv_aload_n hx hb dX1_put_14 rfl (lv_at hl 0 rfl) ?_
  refine q_get (v := .int 2) C inX1 hK hP 0 rfl rfl 6 (by decide) rfl L34 rfl dX1_put_15 ?_
  refine lv_iload_n hx hb dX1_put_18 rfl (lv_at hl 1 rfl) ?_
  refine q_iast (f2 := (upd f_sound_steps 2 x1)) (w2 := [(q_sound_laws, .inr (1, [.ref q_sound_steps, u_sound_laws_1, u_sound_laws_2, u_sound_laws_3, u_sound_laws_4, u_sound_laws_5, .int 2, u_sound_laws_7, u_sound_laws_8])), (q_sound_steps, .inl (cI, 404, .inl (upd f_sound_steps 2 x1)))]) C hK hP hD hS 1 1 rfl rfl (vp_lit (by decide +kernel)) dX1_put_19 rfl rfl (fun H locs hP hD hS => ?_)
  refine lv_aload_n hx hb dX1_put_20 rfl (lv_at hl 0 rfl) ?_
  refine lv_dup hx hb dX1_put_21 rfl ?_
  refine q_get (v := .int 2) C inX1 hK hP 0 rfl rfl 6 (by decide) rfl L34 rfl dX1_put_22 ?_
  refine lv_iconst (v := 1) hx hb dX1_put_25 (by decide) ?_
  refine lv_iadd hx hb dX1_put_26 ?_
  refine q_top (y := 3) (by decide +kernel) ?_
  refine q_put (ty := .int) (w2 := [(q_sound_laws, .inr (1, [.ref q_sound_steps, u_sound_laws_1, u_sound_laws_2, u_sound_laws_3, u_sound_laws_4, u_sound_laws_5, .int 3, u_sound_laws_7, u_sound_laws_8])), (q_sound_steps, .inl (cI, 404, .inl (upd f_sound_steps 2 x1)))]) tyX1 tyX1_ok nmX1 C inX1 hK hP hD hS 0 rfl rfl 6 (by decide) rfl L34 rfl (by decide +kernel) (rfl) rfl (Nat.le_of_ble_eq_true rfl) dX1_put_27 rfl (fun H locs hP hD hS => ?_)
  exact q_vret C hr hlocks hK hP hD hS (Nat.le_of_ble_eq_true rfl) (Nat.le_of_ble_eq_true rfl) dX1_put_30 (rfl)

set_option maxHeartbeats 4000000 in
set_option maxRecDepth 100000 in
theorem k_putNumber2 (l : Launch) (dC : Nat → ClassId) (dI : Nat → Nat → Nat) (cB cI cJ cZ cS : ClassId) (q_sound_laws : Nat) (q_sound_steps : Nat) (u_sound_laws_1 : Value) (u_sound_laws_2 : Value) (u_sound_laws_3 : Value) (u_sound_laws_4 : Value) (u_sound_laws_5 : Value) (u_sound_laws_7 : Value) (u_sound_laws_8 : Value) (f_sound_steps : Nat → Int32) : CV l yX1_putNumber wsX1_putNumber ({ frames := 1, cells := 0, slots := 0, locals := 21 }) (dC, dI) (tysA cB cI cJ cZ cS) [(q_sound_laws, .inr (1, [.ref q_sound_steps, u_sound_laws_1, u_sound_laws_2, u_sound_laws_3, u_sound_laws_4, u_sound_laws_5, .int 2, u_sound_laws_7, u_sound_laws_8])), (q_sound_steps, .inl (cI, 404, .inl f_sound_steps))] [.ref q_sound_laws, .int 1] (fun w => w = [(q_sound_laws, .inr (1, [.ref q_sound_steps, u_sound_laws_1, u_sound_laws_2, u_sound_laws_3, u_sound_laws_4, u_sound_laws_5, .int 3, u_sound_laws_7, u_sound_laws_8])), (q_sound_steps, .inl (cI, 404, .inl (upd f_sound_steps 2 1)))]) := by
  refine open_V (cc := cX1_putNumber) (maxL := 2) (ret := none) (by decide) rfl (Nat.le_of_ble_eq_true rfl) ?_
  intro p e s m below meth c A ls E
  obtain ⟨C, hr, hlocks, hnm, hA, hP, hK, hD, hN, hl⟩ := E
  obtain ⟨hx, hb, hml, hown, hts⟩ := id C
  have hS : va_S A s.heap s.heap [] := va_S.rf
  have hl : lv_has ls 2 [(0, .ref q_sound_laws), (1, .int 1)] := hl
  refine lv_aload_n hx hb dX1_putNumber_0 rfl (lv_at hl 0 rfl) ?_
  refine lv_iload_n hx hb dX1_putNumber_1 rfl (lv_at hl 1 rfl) ?_
  refine q_gov (wr := []) (va_runV (As := [.int 1]) (rest := []) C (k_Lput2 l dC dI cB cI cJ cZ cS (q_sound_laws) (q_sound_steps) (u_sound_laws_1) (u_sound_laws_2) (u_sound_laws_3) (u_sound_laws_4) (u_sound_laws_5) (u_sound_laws_7) (u_sound_laws_8) (f_sound_steps) 1 _) (cwV 1 hts gX1_putNumber_X1_put rfl rfl rfl (by decide +kernel) ⟨Nat.le_of_ble_eq_true rfl, Nat.le_of_ble_eq_true rfl⟩) (q_preV hK hP (ci := 1) (q0 := 0) rfl rfl rfl (q_pre hN hK hP hD [0, 1] rfl (by decide))) rfl rfl hl.1 rfl (lv_room (Nat.le_of_ble_eq_true rfl)) dX1_putNumber_2 ⟨Nat.le_of_ble_eq_true rfl, Nat.le_of_ble_eq_true rfl⟩) hP hD hS hA [0, 1] [] rfl rfl (by decide +kernel) (by decide +kernel) (fun w1 H locs hw hP hD hS => ?_)
  obtain rfl := hw
  replace hP : va_P (dC, dI) vwCl [(q_sound_laws, .inr (1, [.ref q_sound_steps, u_sound_laws_1, u_sound_laws_2, u_sound_laws_3, u_sound_laws_4, u_sound_laws_5, .int 3, u_sound_laws_7, u_sound_laws_8])), (q_sound_steps, .inl (cI, 404, .inl (upd f_sound_steps 2 1)))] H := hP.sub [0, 1] rfl
  replace hD : va_D A [(q_sound_laws, .inr (1, [.ref q_sound_steps, u_sound_laws_1, u_sound_laws_2, u_sound_laws_3, u_sound_laws_4, u_sound_laws_5, .int 3, u_sound_laws_7, u_sound_laws_8])), (q_sound_steps, .inl (cI, 404, .inl (upd f_sound_steps 2 1)))] := hD.sub [0, 1] (by decide) rfl
  exact q_vret C hr hlocks hK hP hD hS (Nat.le_of_ble_eq_true rfl) (Nat.le_of_ble_eq_true rfl) dX1_putNumber_5 (rfl)

set_option maxHeartbeats 4000000 in
set_option maxRecDepth 100000 in
theorem k_endPart2 (l : Launch) (dC : Nat → ClassId) (dI : Nat → Nat → Nat) (cB cI cJ cZ cS : ClassId) (q_sound_laws : Nat) (q_sound_partEnds : Nat) (q_sound_partCounts : Nat) (u_sound_laws_0 : Value) (u_sound_laws_2 : Value) (u_sound_laws_4 : Value) (u_sound_laws_5 : Value) (u_sound_laws_8 : Value) (f_sound_partCounts : Nat → Int32) (f_sound_partEnds : Nat → Int32) (h_sound_partCounts_2 : f_sound_partCounts 2 = 0) : CV l yX1_endPart wsX1_endPart ({ frames := 0, cells := 0, slots := 0, locals := 0 }) (dC, dI) (tysA cB cI cJ cZ cS) [(q_sound_laws, .inr (1, [u_sound_laws_0, .ref q_sound_partEnds, u_sound_laws_2, .ref q_sound_partCounts, u_sound_laws_4, u_sound_laws_5, .int 3, .int 2, u_sound_laws_8])), (q_sound_partCounts, .inl (cI, 4, .inl f_sound_partCounts)), (q_sound_partEnds, .inl (cI, 52, .inl f_sound_partEnds))] [.ref q_sound_laws] (fun w => w = [(q_sound_laws, .inr (1, [u_sound_laws_0, .ref q_sound_partEnds, u_sound_laws_2, .ref q_sound_partCounts, u_sound_laws_4, u_sound_laws_5, .int 3, .int 2, u_sound_laws_8])), (q_sound_partCounts, .inl (cI, 4, .inl (upd f_sound_partCounts 2 1))), (q_sound_partEnds, .inl (cI, 52, .inl (upd f_sound_partEnds 26 3)))]) := by
  refine open_V (cc := cX1_endPart) (maxL := 2) (ret := none) (by decide) rfl (Nat.le_of_ble_eq_true rfl) ?_
  intro p e s m below meth c A ls E
  obtain ⟨C, hr, hlocks, hnm, hA, hP, hK, hD, hN, hl⟩ := E
  obtain ⟨hx, hb, hml, hown, hts⟩ := id C
  have hS : va_S A s.heap s.heap [] := va_S.rf
  have hl : lv_has ls 2 [(0, .ref q_sound_laws)] := hl
  have inX1 : ∀ w ∈ u_ws RX1 TX1 9, w ∈ wsX1_endPart := fun _ h => List.mem_cons_of_mem _ (List.mem_append_right _ h)
  have L19 : Cond.fieldLink RX1 19 "GuessFerry$Laws" "partEnds" "[I" ∈ wsX1_endPart := (List.mem_cons_of_mem _ (List.mem_append_left _ (List.mem_of_getElem? (i := 2) rfl)))
  have L25 : Cond.fieldLink RX1 25 "GuessFerry$Laws" "partCounts" "[I" ∈ wsX1_endPart := (List.mem_cons_of_mem _ (List.mem_append_left _ (List.mem_of_getElem? (i := 0) rfl)))
  have L34 : Cond.fieldLink RX1 34 "GuessFerry$Laws" "length" "I" ∈ wsX1_endPart := (List.mem_cons_of_mem _ (List.mem_append_left _ (List.mem_of_getElem? (i := 3) rfl)))
  have L57 : Cond.fieldLink RX1 57 "GuessFerry$Laws" "current" "I" ∈ wsX1_endPart := (List.mem_cons_of_mem _ (List.mem_append_left _ (List.mem_of_getElem? (i := 1) rfl)))
  refine lv_aload_n hx hb dX1_endPart_0 rfl (lv_at hl 0 rfl) ?_
  refine q_get (v := .ref q_sound_partCounts) C inX1 hK hP 0 rfl rfl 3 (by decide) rfl L25 rfl dX1_endPart_1 ?_
  refine lv_aload_n hx hb dX1_endPart_4 rfl (lv_at hl 0 rfl) ?_
  refine q_get (v := .int 2) C inX1 hK hP 0 rfl rfl 7 (by decide) rfl L57 rfl dX1_endPart_5 ?_
  refine q_iald (x := 0) C hK hP 1 1 rfl rfl (vp_lit (by decide +kernel)) dX1_endPart_8 (h_sound_partCounts_2) ?_
  refine lv_istore_n (lv' := [(1, .int 0), (0, .ref q_sound_laws)]) hx hb dX1_endPart_9 rfl hl (by decide) rfl (fun ls hl => ?_)
  refine lv_iload_n hx hb dX1_endPart_10 rfl (lv_at hl 0 rfl) ?_
  refine lv_bipush (v := 13) hx hb dX1_endPart_11 (by decide) ?_
  refine lv_icmp_ge (tgt := 46) hx hb dX1_endPart_13 (by decide) (fun h => absurd h (by decide +kernel)) (fun _ => ?_)
  refine lv_aload_n hx hb dX1_endPart_16 rfl (lv_at hl 1 rfl) ?_
  refine q_get (v := .ref q_sound_partEnds) C inX1 hK hP 0 rfl rfl 1 (by decide) rfl L19 rfl dX1_endPart_17 ?_
  refine lv_aload_n hx hb dX1_endPart_20 rfl (lv_at hl 1 rfl) ?_
  refine q_get (v := .int 2) C inX1 hK hP 0 rfl rfl 7 (by decide) rfl L57 rfl dX1_endPart_21 ?_
  refine lv_bipush (v := 13) hx hb dX1_endPart_24 (by decide) ?_
  refine lv_imul hx hb dX1_endPart_26 ?_
  refine q_top (y := 26) (by decide +kernel) ?_
  refine lv_iload_n hx hb dX1_endPart_27 rfl (lv_at hl 0 rfl) ?_
  refine lv_iadd hx hb dX1_endPart_28 ?_
  refine q_top (y := 26) (by decide +kernel) ?_
  refine lv_aload_n hx hb dX1_endPart_29 rfl (lv_at hl 1 rfl) ?_
  refine q_get (v := .int 3) C inX1 hK hP 0 rfl rfl 6 (by decide) rfl L34 rfl dX1_endPart_30 ?_
  refine q_iast (f2 := (upd f_sound_partEnds 26 3)) (w2 := [(q_sound_laws, .inr (1, [u_sound_laws_0, .ref q_sound_partEnds, u_sound_laws_2, .ref q_sound_partCounts, u_sound_laws_4, u_sound_laws_5, .int 3, .int 2, u_sound_laws_8])), (q_sound_partCounts, .inl (cI, 4, .inl f_sound_partCounts)), (q_sound_partEnds, .inl (cI, 52, .inl (upd f_sound_partEnds 26 3)))]) C hK hP hD hS 2 1 rfl rfl (vp_lit (by decide +kernel)) dX1_endPart_33 rfl rfl (fun H locs hP hD hS => ?_)
  refine lv_aload_n hx hb dX1_endPart_34 rfl (lv_at hl 1 rfl) ?_
  refine q_get (v := .ref q_sound_partCounts) C inX1 hK hP 0 rfl rfl 3 (by decide) rfl L25 rfl dX1_endPart_35 ?_
  refine lv_aload_n hx hb dX1_endPart_38 rfl (lv_at hl 1 rfl) ?_
  refine q_get (v := .int 2) C inX1 hK hP 0 rfl rfl 7 (by decide) rfl L57 rfl dX1_endPart_39 ?_
  refine lv_iload_n hx hb dX1_endPart_42 rfl (lv_at hl 0 rfl) ?_
  refine lv_iconst (v := 1) hx hb dX1_endPart_43 (by decide) ?_
  refine lv_iadd hx hb dX1_endPart_44 ?_
  refine q_top (y := 1) (by decide +kernel) ?_
  refine q_iast (f2 := (upd f_sound_partCounts 2 1)) (w2 := [(q_sound_laws, .inr (1, [u_sound_laws_0, .ref q_sound_partEnds, u_sound_laws_2, .ref q_sound_partCounts, u_sound_laws_4, u_sound_laws_5, .int 3, .int 2, u_sound_laws_8])), (q_sound_partCounts, .inl (cI, 4, .inl (upd f_sound_partCounts 2 1))), (q_sound_partEnds, .inl (cI, 52, .inl (upd f_sound_partEnds 26 3)))]) C hK hP hD hS 1 1 rfl rfl (vp_lit (by decide +kernel)) dX1_endPart_45 rfl rfl (fun H locs hP hD hS => ?_)
  exact q_vret C hr hlocks hK hP hD hS (Nat.le_of_ble_eq_true rfl) (Nat.le_of_ble_eq_true rfl) dX1_endPart_46 (rfl)
end
section

set_option maxHeartbeats 4000000 in
set_option maxRecDepth 100000 in
theorem k_begin3 (l : Launch) (dC : Nat → ClassId) (dI : Nat → Nat → Nat) (cB cI cJ cZ cS : ClassId) (q_sound_laws : Nat) (q_sound_lawStarts : Nat) (q_sound_partCounts : Nat) (u_sound_laws_0 : Value) (u_sound_laws_1 : Value) (u_sound_laws_4 : Value) (u_sound_laws_5 : Value) (y_cur : Int32) (u_sound_laws_8 : Value) (f_sound_lawStarts : Nat → Int32) (f_sound_partCounts : Nat → Int32) : CV l yX1_begin wsX1_begin ({ frames := 0, cells := 0, slots := 0, locals := 0 }) (dC, dI) (tysA cB cI cJ cZ cS) [(q_sound_laws, .inr (1, [u_sound_laws_0, u_sound_laws_1, .ref q_sound_lawStarts, .ref q_sound_partCounts, u_sound_laws_4, u_sound_laws_5, .int 3, .int y_cur, u_sound_laws_8])), (q_sound_lawStarts, .inl (cI, 4, .inl f_sound_lawStarts)), (q_sound_partCounts, .inl (cI, 4, .inl f_sound_partCounts))] [.ref q_sound_laws, .int 3] (fun w => w = [(q_sound_laws, .inr (1, [u_sound_laws_0, u_sound_laws_1, .ref q_sound_lawStarts, .ref q_sound_partCounts, u_sound_laws_4, u_sound_laws_5, .int 3, .int 3, u_sound_laws_8])), (q_sound_lawStarts, .inl (cI, 4, .inl (upd f_sound_lawStarts 3 3))), (q_sound_partCounts, .inl (cI, 4, .inl (upd f_sound_partCounts 3 0)))]) := by
  refine open_V (cc := cX1_begin) (maxL := 2) (ret := none) (by decide) rfl (Nat.le_of_ble_eq_true rfl) ?_
  intro p e s m below meth c A ls E
  obtain ⟨C, hr, hlocks, hnm, hA, hP, hK, hD, hN, hl⟩ := E
  obtain ⟨hx, hb, hml, hown, hts⟩ := id C
  have hS : va_S A s.heap s.heap [] := va_S.rf
  have hl : lv_has ls 2 [(0, .ref q_sound_laws), (1, .int 3)] := hl
  have inX1 : ∀ w ∈ u_ws RX1 TX1 9, w ∈ wsX1_begin := fun _ h => List.mem_cons_of_mem _ (List.mem_append_right _ h)
  have L22 : Cond.fieldLink RX1 22 "GuessFerry$Laws" "lawStarts" "[I" ∈ wsX1_begin := (List.mem_cons_of_mem _ (List.mem_append_left _ (List.mem_of_getElem? (i := 1) rfl)))
  have L25 : Cond.fieldLink RX1 25 "GuessFerry$Laws" "partCounts" "[I" ∈ wsX1_begin := (List.mem_cons_of_mem _ (List.mem_append_left _ (List.mem_of_getElem? (i := 3) rfl)))
  have L34 : Cond.fieldLink RX1 34 "GuessFerry$Laws" "length" "I" ∈ wsX1_begin := (List.mem_cons_of_mem _ (List.mem_append_left _ (List.mem_of_getElem? (i := 2) rfl)))
  have L57 : Cond.fieldLink RX1 57 "GuessFerry$Laws" "current" "I" ∈ wsX1_begin := (List.mem_cons_of_mem _ (List.mem_append_left _ (List.mem_of_getElem? (i := 0) rfl)))
  refine lv_aload_n hx hb dX1_begin_0 rfl (lv_at hl 0 rfl) ?_
  refine lv_iload_n hx hb dX1_begin_1 rfl (lv_at hl 1 rfl) ?_
  refine q_put (ty := .int) (w2 := [(q_sound_laws, .inr (1, [u_sound_laws_0, u_sound_laws_1, .ref q_sound_lawStarts, .ref q_sound_partCounts, u_sound_laws_4, u_sound_laws_5, .int 3, .int 3, u_sound_laws_8])), (q_sound_lawStarts, .inl (cI, 4, .inl f_sound_lawStarts)), (q_sound_partCounts, .inl (cI, 4, .inl f_sound_partCounts))]) tyX1 tyX1_ok nmX1 C inX1 hK hP hD hS 0 rfl rfl 7 (by decide) rfl L57 rfl (by decide +kernel) (rfl) rfl (Nat.le_of_ble_eq_true rfl) dX1_begin_2 rfl (fun H locs hP hD hS => ?_)
  refine lv_aload_n hx hb dX1_begin_5 rfl (lv_at hl 0 rfl) ?_
  refine q_get (v := .ref q_sound_lawStarts) C inX1 hK hP 0 rfl rfl 2 (by decide) rfl L22 rfl dX1_begin_6 ?_
  refine lv_iload_n hx hb dX1_begin_9 rfl (lv_at hl 1 rfl) ?_
  refine lv_aload_n hx hb dX1_begin_10 rfl (lv_at hl 0 rfl) ?_
  refine q_get (v := .int 3) C inX1 hK hP 0 rfl rfl 6 (by decide) rfl L34 rfl dX1_begin_11 ?_
  refine q_iast (f2 := (upd f_sound_lawStarts 3 3)) (w2 := [(q_sound_laws, .inr (1, [u_sound_laws_0, u_sound_laws_1, .ref q_sound_lawStarts, .ref q_sound_partCounts, u_sound_laws_4, u_sound_laws_5, .int 3, .int 3, u_sound_laws_8])), (q_sound_lawStarts, .inl (cI, 4, .inl (upd f_sound_lawStarts 3 3))), (q_sound_partCounts, .inl (cI, 4, .inl f_sound_partCounts))]) C hK hP hD hS 1 1 rfl rfl (vp_lit (by decide +kernel)) dX1_begin_14 rfl rfl (fun H locs hP hD hS => ?_)
  refine lv_aload_n hx hb dX1_begin_15 rfl (lv_at hl 0 rfl) ?_
  refine q_get (v := .ref q_sound_partCounts) C inX1 hK hP 0 rfl rfl 3 (by decide) rfl L25 rfl dX1_begin_16 ?_
  refine lv_iload_n hx hb dX1_begin_19 rfl (lv_at hl 1 rfl) ?_
  refine lv_iconst (v := 0) hx hb dX1_begin_20 (by decide) ?_
  refine q_iast (f2 := (upd f_sound_partCounts 3 0)) (w2 := [(q_sound_laws, .inr (1, [u_sound_laws_0, u_sound_laws_1, .ref q_sound_lawStarts, .ref q_sound_partCounts, u_sound_laws_4, u_sound_laws_5, .int 3, .int 3, u_sound_laws_8])), (q_sound_lawStarts, .inl (cI, 4, .inl (upd f_sound_lawStarts 3 3))), (q_sound_partCounts, .inl (cI, 4, .inl (upd f_sound_partCounts 3 0)))]) C hK hP hD hS 2 1 rfl rfl (vp_lit (by decide +kernel)) dX1_begin_21 rfl rfl (fun H locs hP hD hS => ?_)
  exact q_vret C hr hlocks hK hP hD hS (Nat.le_of_ble_eq_true rfl) (Nat.le_of_ble_eq_true rfl) dX1_begin_22 (rfl)

set_option maxHeartbeats 4000000 in
set_option maxRecDepth 100000 in
theorem k_Lput3 (l : Launch) (dC : Nat → ClassId) (dI : Nat → Nat → Nat) (cB cI cJ cZ cS : ClassId) (q_sound_laws : Nat) (q_sound_steps : Nat) (u_sound_laws_1 : Value) (u_sound_laws_2 : Value) (u_sound_laws_3 : Value) (u_sound_laws_4 : Value) (u_sound_laws_5 : Value) (u_sound_laws_7 : Value) (u_sound_laws_8 : Value) (f_sound_steps : Nat → Int32) (x1 : Int32) : CV l yX1_put wsX1_put ({ frames := 0, cells := 0, slots := 0, locals := 0 }) (dC, dI) (tysA cB cI cJ cZ cS) [(q_sound_laws, .inr (1, [.ref q_sound_steps, u_sound_laws_1, u_sound_laws_2, u_sound_laws_3, u_sound_laws_4, u_sound_laws_5, .int 3, u_sound_laws_7, u_sound_laws_8])), (q_sound_steps, .inl (cI, 404, .inl f_sound_steps))] [.ref q_sound_laws, .int x1] (fun w => w = [(q_sound_laws, .inr (1, [.ref q_sound_steps, u_sound_laws_1, u_sound_laws_2, u_sound_laws_3, u_sound_laws_4, u_sound_laws_5, .int 4, u_sound_laws_7, u_sound_laws_8])), (q_sound_steps, .inl (cI, 404, .inl (upd f_sound_steps 3 x1)))]) := by
  refine open_V (cc := cX1_put) (maxL := 2) (ret := none) (by decide) rfl (Nat.le_of_ble_eq_true rfl) ?_
  intro p e s m below meth c A ls E
  obtain ⟨C, hr, hlocks, hnm, hA, hP, hK, hD, hN, hl⟩ := E
  obtain ⟨hx, hb, hml, hown, hts⟩ := id C
  have hS : va_S A s.heap s.heap [] := va_S.rf
  have hl : lv_has ls 2 [(0, .ref q_sound_laws), (1, .int x1)] := hl
  have inX1 : ∀ w ∈ u_ws RX1 TX1 9, w ∈ wsX1_put := fun _ h => List.mem_cons_of_mem _ (List.mem_append_right _ h)
  have L15 : Cond.fieldLink RX1 15 "GuessFerry$Laws" "steps" "[I" ∈ wsX1_put := (List.mem_cons_of_mem _ (List.mem_append_left _ (List.mem_of_getElem? (i := 1) rfl)))
  have L34 : Cond.fieldLink RX1 34 "GuessFerry$Laws" "length" "I" ∈ wsX1_put := (List.mem_cons_of_mem _ (List.mem_append_left _ (List.mem_of_getElem? (i := 0) rfl)))
  refine lv_aload_n hx hb dX1_put_0 rfl (lv_at hl 0 rfl) ?_
  refine q_get (v := .int 3) C inX1 hK hP 0 rfl rfl 6 (by decide) rfl L34 rfl dX1_put_1 ?_
  refine lv_sipush (v := 404) hx hb dX1_put_4 (by decide) ?_
  refine lv_icmp_ge (tgt := 30) hx hb dX1_put_7 (by decide) (fun h => absurd h (by decide +kernel)) (fun _ => ?_)
  refine lv_aload_n hx hb dX1_put_10 rfl (lv_at hl 0 rfl) ?_
  refine q_get (v := .ref q_sound_steps) C inX1 hK hP 0 rfl rfl 0 (by decide) rfl L15 rfl dX1_put_11 ?_
  refine lv_aload_n hx hb dX1_put_14 rfl (lv_at hl 0 rfl) ?_
  refine q_get (v := .int 3) C inX1 hK hP 0 rfl rfl 6 (by decide) rfl L34 rfl dX1_put_15 ?_
  refine lv_iload_n hx hb dX1_put_18 rfl (lv_at hl 1 rfl) ?_
  refine q_iast (f2 := (upd f_sound_steps 3 x1)) (w2 := [(q_sound_laws, .inr (1, [.ref q_sound_steps, u_sound_laws_1, u_sound_laws_2, u_sound_laws_3, u_sound_laws_4, u_sound_laws_5, .int 3, u_sound_laws_7, u_sound_laws_8])), (q_sound_steps, .inl (cI, 404, .inl (upd f_sound_steps 3 x1)))]) C hK hP hD hS 1 1 rfl rfl (vp_lit (by decide +kernel)) dX1_put_19 rfl rfl (fun H locs hP hD hS => ?_)
  refine lv_aload_n hx hb dX1_put_20 rfl (lv_at hl 0 rfl) ?_
  refine lv_dup hx hb dX1_put_21 rfl ?_
  refine q_get (v := .int 3) C inX1 hK hP 0 rfl rfl 6 (by decide) rfl L34 rfl dX1_put_22 ?_
  refine lv_iconst (v := 1) hx hb dX1_put_25 (by decide) ?_
  refine lv_iadd hx hb dX1_put_26 ?_
  refine q_top (y := 4) (by decide +kernel) ?_
  refine q_put (ty := .int) (w2 := [(q_sound_laws, .inr (1, [.ref q_sound_steps, u_sound_laws_1, u_sound_laws_2, u_sound_laws_3, u_sound_laws_4, u_sound_laws_5, .int 4, u_sound_laws_7, u_sound_laws_8])), (q_sound_steps, .inl (cI, 404, .inl (upd f_sound_steps 3 x1)))]) tyX1 tyX1_ok nmX1 C inX1 hK hP hD hS 0 rfl rfl 6 (by decide) rfl L34 rfl (by decide +kernel) (rfl) rfl (Nat.le_of_ble_eq_true rfl) dX1_put_27 rfl (fun H locs hP hD hS => ?_)
  exact q_vret C hr hlocks hK hP hD hS (Nat.le_of_ble_eq_true rfl) (Nat.le_of_ble_eq_true rfl) dX1_put_30 (rfl)

set_option maxHeartbeats 4000000 in
set_option maxRecDepth 100000 in
theorem k_putNumber3 (l : Launch) (dC : Nat → ClassId) (dI : Nat → Nat → Nat) (cB cI cJ cZ cS : ClassId) (q_sound_laws : Nat) (q_sound_steps : Nat) (u_sound_laws_1 : Value) (u_sound_laws_2 : Value) (u_sound_laws_3 : Value) (u_sound_laws_4 : Value) (u_sound_laws_5 : Value) (u_sound_laws_7 : Value) (u_sound_laws_8 : Value) (f_sound_steps : Nat → Int32) : CV l yX1_putNumber wsX1_putNumber ({ frames := 1, cells := 0, slots := 0, locals := 21 }) (dC, dI) (tysA cB cI cJ cZ cS) [(q_sound_laws, .inr (1, [.ref q_sound_steps, u_sound_laws_1, u_sound_laws_2, u_sound_laws_3, u_sound_laws_4, u_sound_laws_5, .int 3, u_sound_laws_7, u_sound_laws_8])), (q_sound_steps, .inl (cI, 404, .inl f_sound_steps))] [.ref q_sound_laws, .int 0] (fun w => w = [(q_sound_laws, .inr (1, [.ref q_sound_steps, u_sound_laws_1, u_sound_laws_2, u_sound_laws_3, u_sound_laws_4, u_sound_laws_5, .int 4, u_sound_laws_7, u_sound_laws_8])), (q_sound_steps, .inl (cI, 404, .inl (upd f_sound_steps 3 0)))]) := by
  refine open_V (cc := cX1_putNumber) (maxL := 2) (ret := none) (by decide) rfl (Nat.le_of_ble_eq_true rfl) ?_
  intro p e s m below meth c A ls E
  obtain ⟨C, hr, hlocks, hnm, hA, hP, hK, hD, hN, hl⟩ := E
  obtain ⟨hx, hb, hml, hown, hts⟩ := id C
  have hS : va_S A s.heap s.heap [] := va_S.rf
  have hl : lv_has ls 2 [(0, .ref q_sound_laws), (1, .int 0)] := hl
  refine lv_aload_n hx hb dX1_putNumber_0 rfl (lv_at hl 0 rfl) ?_
  refine lv_iload_n hx hb dX1_putNumber_1 rfl (lv_at hl 1 rfl) ?_
  refine q_gov (wr := []) (va_runV (As := [.int 0]) (rest := []) C (k_Lput3 l dC dI cB cI cJ cZ cS (q_sound_laws) (q_sound_steps) (u_sound_laws_1) (u_sound_laws_2) (u_sound_laws_3) (u_sound_laws_4) (u_sound_laws_5) (u_sound_laws_7) (u_sound_laws_8) (f_sound_steps) 0 _) (cwV 1 hts gX1_putNumber_X1_put rfl rfl rfl (by decide +kernel) ⟨Nat.le_of_ble_eq_true rfl, Nat.le_of_ble_eq_true rfl⟩) (q_preV hK hP (ci := 1) (q0 := 0) rfl rfl rfl (q_pre hN hK hP hD [0, 1] rfl (by decide))) rfl rfl hl.1 rfl (lv_room (Nat.le_of_ble_eq_true rfl)) dX1_putNumber_2 ⟨Nat.le_of_ble_eq_true rfl, Nat.le_of_ble_eq_true rfl⟩) hP hD hS hA [0, 1] [] rfl rfl (by decide +kernel) (by decide +kernel) (fun w1 H locs hw hP hD hS => ?_)
  obtain rfl := hw
  replace hP : va_P (dC, dI) vwCl [(q_sound_laws, .inr (1, [.ref q_sound_steps, u_sound_laws_1, u_sound_laws_2, u_sound_laws_3, u_sound_laws_4, u_sound_laws_5, .int 4, u_sound_laws_7, u_sound_laws_8])), (q_sound_steps, .inl (cI, 404, .inl (upd f_sound_steps 3 0)))] H := hP.sub [0, 1] rfl
  replace hD : va_D A [(q_sound_laws, .inr (1, [.ref q_sound_steps, u_sound_laws_1, u_sound_laws_2, u_sound_laws_3, u_sound_laws_4, u_sound_laws_5, .int 4, u_sound_laws_7, u_sound_laws_8])), (q_sound_steps, .inl (cI, 404, .inl (upd f_sound_steps 3 0)))] := hD.sub [0, 1] (by decide) rfl
  exact q_vret C hr hlocks hK hP hD hS (Nat.le_of_ble_eq_true rfl) (Nat.le_of_ble_eq_true rfl) dX1_putNumber_5 (rfl)

set_option maxHeartbeats 4000000 in
set_option maxRecDepth 100000 in
theorem k_endPart3 (l : Launch) (dC : Nat → ClassId) (dI : Nat → Nat → Nat) (cB cI cJ cZ cS : ClassId) (q_sound_laws : Nat) (q_sound_partEnds : Nat) (q_sound_partCounts : Nat) (u_sound_laws_0 : Value) (u_sound_laws_2 : Value) (u_sound_laws_4 : Value) (u_sound_laws_5 : Value) (u_sound_laws_8 : Value) (f_sound_partCounts : Nat → Int32) (f_sound_partEnds : Nat → Int32) (h_sound_partCounts_3 : f_sound_partCounts 3 = 0) : CV l yX1_endPart wsX1_endPart ({ frames := 0, cells := 0, slots := 0, locals := 0 }) (dC, dI) (tysA cB cI cJ cZ cS) [(q_sound_laws, .inr (1, [u_sound_laws_0, .ref q_sound_partEnds, u_sound_laws_2, .ref q_sound_partCounts, u_sound_laws_4, u_sound_laws_5, .int 4, .int 3, u_sound_laws_8])), (q_sound_partCounts, .inl (cI, 4, .inl f_sound_partCounts)), (q_sound_partEnds, .inl (cI, 52, .inl f_sound_partEnds))] [.ref q_sound_laws] (fun w => w = [(q_sound_laws, .inr (1, [u_sound_laws_0, .ref q_sound_partEnds, u_sound_laws_2, .ref q_sound_partCounts, u_sound_laws_4, u_sound_laws_5, .int 4, .int 3, u_sound_laws_8])), (q_sound_partCounts, .inl (cI, 4, .inl (upd f_sound_partCounts 3 1))), (q_sound_partEnds, .inl (cI, 52, .inl (upd f_sound_partEnds 39 4)))]) := by
  refine open_V (cc := cX1_endPart) (maxL := 2) (ret := none) (by decide) rfl (Nat.le_of_ble_eq_true rfl) ?_
  intro p e s m below meth c A ls E
  obtain ⟨C, hr, hlocks, hnm, hA, hP, hK, hD, hN, hl⟩ := E
  obtain ⟨hx, hb, hml, hown, hts⟩ := id C
  have hS : va_S A s.heap s.heap [] := va_S.rf
  have hl : lv_has ls 2 [(0, .ref q_sound_laws)] := hl
  have inX1 : ∀ w ∈ u_ws RX1 TX1 9, w ∈ wsX1_endPart := fun _ h => List.mem_cons_of_mem _ (List.mem_append_right _ h)
  have L19 : Cond.fieldLink RX1 19 "GuessFerry$Laws" "partEnds" "[I" ∈ wsX1_endPart := (List.mem_cons_of_mem _ (List.mem_append_left _ (List.mem_of_getElem? (i := 2) rfl)))
  have L25 : Cond.fieldLink RX1 25 "GuessFerry$Laws" "partCounts" "[I" ∈ wsX1_endPart := (List.mem_cons_of_mem _ (List.mem_append_left _ (List.mem_of_getElem? (i := 0) rfl)))
  have L34 : Cond.fieldLink RX1 34 "GuessFerry$Laws" "length" "I" ∈ wsX1_endPart := (List.mem_cons_of_mem _ (List.mem_append_left _ (List.mem_of_getElem? (i := 3) rfl)))
  have L57 : Cond.fieldLink RX1 57 "GuessFerry$Laws" "current" "I" ∈ wsX1_endPart := (List.mem_cons_of_mem _ (List.mem_append_left _ (List.mem_of_getElem? (i := 1) rfl)))
  refine lv_aload_n hx hb dX1_endPart_0 rfl (lv_at hl 0 rfl) ?_
  refine q_get (v := .ref q_sound_partCounts) C inX1 hK hP 0 rfl rfl 3 (by decide) rfl L25 rfl dX1_endPart_1 ?_
  refine lv_aload_n hx hb dX1_endPart_4 rfl (lv_at hl 0 rfl) ?_
  refine q_get (v := .int 3) C inX1 hK hP 0 rfl rfl 7 (by decide) rfl L57 rfl dX1_endPart_5 ?_
  refine q_iald (x := 0) C hK hP 1 1 rfl rfl (vp_lit (by decide +kernel)) dX1_endPart_8 (h_sound_partCounts_3) ?_
  refine lv_istore_n (lv' := [(1, .int 0), (0, .ref q_sound_laws)]) hx hb dX1_endPart_9 rfl hl (by decide) rfl (fun ls hl => ?_)
  refine lv_iload_n hx hb dX1_endPart_10 rfl (lv_at hl 0 rfl) ?_
  refine lv_bipush (v := 13) hx hb dX1_endPart_11 (by decide) ?_
  refine lv_icmp_ge (tgt := 46) hx hb dX1_endPart_13 (by decide) (fun h => absurd h (by decide +kernel)) (fun _ => ?_)
  refine lv_aload_n hx hb dX1_endPart_16 rfl (lv_at hl 1 rfl) ?_
  refine q_get (v := .ref q_sound_partEnds) C inX1 hK hP 0 rfl rfl 1 (by decide) rfl L19 rfl dX1_endPart_17 ?_
  refine lv_aload_n hx hb dX1_endPart_20 rfl (lv_at hl 1 rfl) ?_
  refine q_get (v := .int 3) C inX1 hK hP 0 rfl rfl 7 (by decide) rfl L57 rfl dX1_endPart_21 ?_
  refine lv_bipush (v := 13) hx hb dX1_endPart_24 (by decide) ?_
  refine lv_imul hx hb dX1_endPart_26 ?_
  refine q_top (y := 39) (by decide +kernel) ?_
  refine lv_iload_n hx hb dX1_endPart_27 rfl (lv_at hl 0 rfl) ?_
  refine lv_iadd hx hb dX1_endPart_28 ?_
  refine q_top (y := 39) (by decide +kernel) ?_
  refine lv_aload_n hx hb dX1_endPart_29 rfl (lv_at hl 1 rfl) ?_
  refine q_get (v := .int 4) C inX1 hK hP 0 rfl rfl 6 (by decide) rfl L34 rfl dX1_endPart_30 ?_
  refine q_iast (f2 := (upd f_sound_partEnds 39 4)) (w2 := [(q_sound_laws, .inr (1, [u_sound_laws_0, .ref q_sound_partEnds, u_sound_laws_2, .ref q_sound_partCounts, u_sound_laws_4, u_sound_laws_5, .int 4, .int 3, u_sound_laws_8])), (q_sound_partCounts, .inl (cI, 4, .inl f_sound_partCounts)), (q_sound_partEnds, .inl (cI, 52, .inl (upd f_sound_partEnds 39 4)))]) C hK hP hD hS 2 1 rfl rfl (vp_lit (by decide +kernel)) dX1_endPart_33 rfl rfl (fun H locs hP hD hS => ?_)
  refine lv_aload_n hx hb dX1_endPart_34 rfl (lv_at hl 1 rfl) ?_
  refine q_get (v := .ref q_sound_partCounts) C inX1 hK hP 0 rfl rfl 3 (by decide) rfl L25 rfl dX1_endPart_35 ?_
  refine lv_aload_n hx hb dX1_endPart_38 rfl (lv_at hl 1 rfl) ?_
  refine q_get (v := .int 3) C inX1 hK hP 0 rfl rfl 7 (by decide) rfl L57 rfl dX1_endPart_39 ?_
  refine lv_iload_n hx hb dX1_endPart_42 rfl (lv_at hl 0 rfl) ?_
  refine lv_iconst (v := 1) hx hb dX1_endPart_43 (by decide) ?_
  refine lv_iadd hx hb dX1_endPart_44 ?_
  refine q_top (y := 1) (by decide +kernel) ?_
  refine q_iast (f2 := (upd f_sound_partCounts 3 1)) (w2 := [(q_sound_laws, .inr (1, [u_sound_laws_0, .ref q_sound_partEnds, u_sound_laws_2, .ref q_sound_partCounts, u_sound_laws_4, u_sound_laws_5, .int 4, .int 3, u_sound_laws_8])), (q_sound_partCounts, .inl (cI, 4, .inl (upd f_sound_partCounts 3 1))), (q_sound_partEnds, .inl (cI, 52, .inl (upd f_sound_partEnds 39 4)))]) C hK hP hD hS 1 1 rfl rfl (vp_lit (by decide +kernel)) dX1_endPart_45 rfl rfl (fun H locs hP hD hS => ?_)
  exact q_vret C hr hlocks hK hP hD hS (Nat.le_of_ble_eq_true rfl) (Nat.le_of_ble_eq_true rfl) dX1_endPart_46 (rfl)

set_option maxHeartbeats 4000000 in
set_option maxRecDepth 100000 in
theorem k_X1_clear (l : Launch) (dC : Nat → ClassId) (dI : Nat → Nat → Nat) (cB cI cJ cZ cS : ClassId) (q_sound_laws : Nat) (q_sound_steps : Nat) (q_sound_partEnds : Nat) (q_sound_lawStarts : Nat) (q_sound_partCounts : Nat) (u_sound_laws_4 : Value) (u_sound_laws_5 : Value) (y_len : Int32) (y_cur : Int32) (u_sound_laws_8 : Value) (f_sound_lawStarts : Nat → Int32) (f_sound_partCounts : Nat → Int32) (f_sound_steps : Nat → Int32) (f_sound_partEnds : Nat → Int32) : CV l yX1_clear wsX1_clear ({ frames := 2, cells := 0, slots := 0, locals := 42 }) (dC, dI) (tysA cB cI cJ cZ cS) [(q_sound_laws, .inr (1, [.ref q_sound_steps, .ref q_sound_partEnds, .ref q_sound_lawStarts, .ref q_sound_partCounts, u_sound_laws_4, u_sound_laws_5, .int y_len, .int y_cur, u_sound_laws_8])), (q_sound_lawStarts, .inl (cI, 4, .inl f_sound_lawStarts)), (q_sound_partCounts, .inl (cI, 4, .inl f_sound_partCounts)), (q_sound_steps, .inl (cI, 404, .inl f_sound_steps)), (q_sound_partEnds, .inl (cI, 52, .inl f_sound_partEnds))] [.ref q_sound_laws] (fun w => w = [(q_sound_laws, .inr (1, [.ref q_sound_steps, .ref q_sound_partEnds, .ref q_sound_lawStarts, .ref q_sound_partCounts, u_sound_laws_4, u_sound_laws_5, .int 4, .int 3, u_sound_laws_8])), (q_sound_lawStarts, .inl (cI, 4, .inl (upd (upd (upd (upd f_sound_lawStarts 0 0) 1 1) 2 2) 3 3))), (q_sound_partCounts, .inl (cI, 4, .inl (upd (upd (upd (upd (upd (upd (upd (upd f_sound_partCounts 0 0) 0 1) 1 0) 1 1) 2 0) 2 1) 3 0) 3 1))), (q_sound_steps, .inl (cI, 404, .inl (upd (upd (upd (upd f_sound_steps 0 (-3)) 1 1) 2 1) 3 0))), (q_sound_partEnds, .inl (cI, 52, .inl (upd (upd (upd (upd f_sound_partEnds 0 1) 13 2) 26 3) 39 4)))]) := by
  refine open_V (cc := cX1_clear) (maxL := 1) (ret := none) (by decide) rfl (Nat.le_of_ble_eq_true rfl) ?_
  intro p e s m below meth c A ls E
  obtain ⟨C, hr, hlocks, hnm, hA, hP, hK, hD, hN, hl⟩ := E
  obtain ⟨hx, hb, hml, hown, hts⟩ := id C
  have hS : va_S A s.heap s.heap [] := va_S.rf
  have hl : lv_has ls 1 [(0, .ref q_sound_laws)] := hl
  have inX1 : ∀ w ∈ u_ws RX1 TX1 9, w ∈ wsX1_clear := fun w h => (List.mem_cons_of_mem _ (List.mem_append_right _ h))
  have L34 : Cond.fieldLink RX1 34 "GuessFerry$Laws" "length" "I" ∈ wsX1_clear := (List.mem_cons_of_mem _ (List.mem_append_left _ (List.mem_append_left _ (List.mem_of_getElem? (i := 0) rfl))))
  refine lv_aload_n hx hb dX1_clear_0 rfl (lv_at hl 0 rfl) ?_
  refine lv_iconst (v := 0) hx hb dX1_clear_1 (by decide) ?_
  refine q_put (ty := .int) (w2 := [(q_sound_laws, .inr (1, [.ref q_sound_steps, .ref q_sound_partEnds, .ref q_sound_lawStarts, .ref q_sound_partCounts, u_sound_laws_4, u_sound_laws_5, .int 0, .int y_cur, u_sound_laws_8])), (q_sound_lawStarts, .inl (cI, 4, .inl f_sound_lawStarts)), (q_sound_partCounts, .inl (cI, 4, .inl f_sound_partCounts)), (q_sound_steps, .inl (cI, 404, .inl f_sound_steps)), (q_sound_partEnds, .inl (cI, 52, .inl f_sound_partEnds))]) tyX1 tyX1_ok nmX1 C inX1 hK hP hD hS 0 rfl rfl 6 (by decide) rfl L34 rfl (by decide +kernel) (rfl) rfl (Nat.le_of_ble_eq_true rfl) dX1_clear_2 rfl (fun H locs hP hD hS => ?_)
  refine lv_aload_n hx hb dX1_clear_5 rfl (lv_at hl 0 rfl) ?_
  refine lv_iconst (v := 0) hx hb dX1_clear_6 (by decide) ?_
  refine q_gov (wr := [(q_sound_steps, .inl (cI, 404, .inl f_sound_steps)), (q_sound_partEnds, .inl (cI, 52, .inl f_sound_partEnds))]) (va_runV (As := [.int 0]) (rest := []) C (k_begin0 l dC dI cB cI cJ cZ cS (q_sound_laws) (q_sound_lawStarts) (q_sound_partCounts) (.ref q_sound_steps) (.ref q_sound_partEnds) (u_sound_laws_4) (u_sound_laws_5) (y_cur) (u_sound_laws_8) (f_sound_lawStarts) (f_sound_partCounts) _) (cwV 1 hts gX1_clear_X1_begin rfl rfl rfl (by decide +kernel) ⟨Nat.le_of_ble_eq_true rfl, Nat.le_of_ble_eq_true rfl⟩) (q_preV hK hP (ci := 1) (q0 := 0) rfl rfl rfl (q_pre hN hK hP hD [0, 1, 2] rfl (by decide))) rfl rfl hl.1 rfl (lv_room (Nat.le_of_ble_eq_true rfl)) dX1_clear_7 ⟨Nat.le_of_ble_eq_true rfl, Nat.le_of_ble_eq_true rfl⟩) hP hD hS hA [0, 1, 2] [3, 4] rfl rfl (by decide +kernel) (by decide +kernel) (fun w1 H locs hw hP hD hS => ?_)
  obtain rfl := hw
  replace hP : va_P (dC, dI) vwCl [(q_sound_laws, .inr (1, [.ref q_sound_steps, .ref q_sound_partEnds, .ref q_sound_lawStarts, .ref q_sound_partCounts, u_sound_laws_4, u_sound_laws_5, .int 0, .int 0, u_sound_laws_8])), (q_sound_lawStarts, .inl (cI, 4, .inl (upd f_sound_lawStarts 0 0))), (q_sound_partCounts, .inl (cI, 4, .inl (upd f_sound_partCounts 0 0))), (q_sound_steps, .inl (cI, 404, .inl f_sound_steps)), (q_sound_partEnds, .inl (cI, 52, .inl f_sound_partEnds))] H := hP.sub [2, 3, 4, 0, 1] rfl
  replace hD : va_D A [(q_sound_laws, .inr (1, [.ref q_sound_steps, .ref q_sound_partEnds, .ref q_sound_lawStarts, .ref q_sound_partCounts, u_sound_laws_4, u_sound_laws_5, .int 0, .int 0, u_sound_laws_8])), (q_sound_lawStarts, .inl (cI, 4, .inl (upd f_sound_lawStarts 0 0))), (q_sound_partCounts, .inl (cI, 4, .inl (upd f_sound_partCounts 0 0))), (q_sound_steps, .inl (cI, 404, .inl f_sound_steps)), (q_sound_partEnds, .inl (cI, 52, .inl f_sound_partEnds))] := hD.sub [2, 3, 4, 0, 1] (by decide) rfl
  refine lv_aload_n hx hb dX1_clear_10 rfl (lv_at hl 0 rfl) ?_
  refine lv_iconst (v := 2) hx hb dX1_clear_11 (by decide) ?_
  refine q_gov (wr := [(q_sound_lawStarts, .inl (cI, 4, .inl (upd f_sound_lawStarts 0 0))), (q_sound_partCounts, .inl (cI, 4, .inl (upd f_sound_partCounts 0 0))), (q_sound_partEnds, .inl (cI, 52, .inl f_sound_partEnds))]) (va_runV (As := [.int 2]) (rest := []) C (k_putVar l dC dI cB cI cJ cZ cS (q_sound_laws) (q_sound_steps) (.ref q_sound_partEnds) (.ref q_sound_lawStarts) (.ref q_sound_partCounts) (u_sound_laws_4) (u_sound_laws_5) (.int 0) (u_sound_laws_8) (f_sound_steps) _) (cwV 1 hts gX1_clear_X1_putVar rfl rfl rfl (by decide +kernel) ⟨Nat.le_of_ble_eq_true rfl, Nat.le_of_ble_eq_true rfl⟩) (q_preV hK hP (ci := 1) (q0 := 0) rfl rfl rfl (q_pre hN hK hP hD [0, 3] rfl (by decide))) rfl rfl hl.1 rfl (lv_room (Nat.le_of_ble_eq_true rfl)) dX1_clear_12 ⟨Nat.le_of_ble_eq_true rfl, Nat.le_of_ble_eq_true rfl⟩) hP hD hS hA [0, 3] [1, 2, 4] rfl rfl (by decide +kernel) (by decide +kernel) (fun w1 H locs hw hP hD hS => ?_)
  obtain rfl := hw
  replace hP : va_P (dC, dI) vwCl [(q_sound_laws, .inr (1, [.ref q_sound_steps, .ref q_sound_partEnds, .ref q_sound_lawStarts, .ref q_sound_partCounts, u_sound_laws_4, u_sound_laws_5, .int 1, .int 0, u_sound_laws_8])), (q_sound_lawStarts, .inl (cI, 4, .inl (upd f_sound_lawStarts 0 0))), (q_sound_partCounts, .inl (cI, 4, .inl (upd f_sound_partCounts 0 0))), (q_sound_steps, .inl (cI, 404, .inl (upd f_sound_steps 0 (-3)))), (q_sound_partEnds, .inl (cI, 52, .inl f_sound_partEnds))] H := hP.sub [3, 0, 1, 4, 2] rfl
  replace hD : va_D A [(q_sound_laws, .inr (1, [.ref q_sound_steps, .ref q_sound_partEnds, .ref q_sound_lawStarts, .ref q_sound_partCounts, u_sound_laws_4, u_sound_laws_5, .int 1, .int 0, u_sound_laws_8])), (q_sound_lawStarts, .inl (cI, 4, .inl (upd f_sound_lawStarts 0 0))), (q_sound_partCounts, .inl (cI, 4, .inl (upd f_sound_partCounts 0 0))), (q_sound_steps, .inl (cI, 404, .inl (upd f_sound_steps 0 (-3)))), (q_sound_partEnds, .inl (cI, 52, .inl f_sound_partEnds))] := hD.sub [3, 0, 1, 4, 2] (by decide) rfl
  refine lv_aload_n hx hb dX1_clear_15 rfl (lv_at hl 0 rfl) ?_
  refine q_gov (wr := [(q_sound_lawStarts, .inl (cI, 4, .inl (upd f_sound_lawStarts 0 0))), (q_sound_steps, .inl (cI, 404, .inl (upd f_sound_steps 0 (-3))))]) (va_runV (As := []) (rest := []) C (k_endPart0 l dC dI cB cI cJ cZ cS (q_sound_laws) (q_sound_partEnds) (q_sound_partCounts) (.ref q_sound_steps) (.ref q_sound_lawStarts) (u_sound_laws_4) (u_sound_laws_5) (u_sound_laws_8) ((upd f_sound_partCounts 0 0)) (f_sound_partEnds) rfl _) (cwV 0 hts gX1_clear_X1_endPart rfl rfl rfl (by decide +kernel) ⟨Nat.le_of_ble_eq_true rfl, Nat.le_of_ble_eq_true rfl⟩) (q_preV hK hP (ci := 1) (q0 := 0) rfl rfl rfl (q_pre hN hK hP hD [0, 2, 4] rfl (by decide))) rfl rfl hl.1 rfl (lv_room (Nat.le_of_ble_eq_true rfl)) dX1_clear_16 ⟨Nat.le_of_ble_eq_true rfl, Nat.le_of_ble_eq_true rfl⟩) hP hD hS hA [0, 2, 4] [1, 3] rfl rfl (by decide +kernel) (by decide +kernel) (fun w1 H locs hw hP hD hS => ?_)
  obtain rfl := hw
  replace hP : va_P (dC, dI) vwCl [(q_sound_laws, .inr (1, [.ref q_sound_steps, .ref q_sound_partEnds, .ref q_sound_lawStarts, .ref q_sound_partCounts, u_sound_laws_4, u_sound_laws_5, .int 1, .int 0, u_sound_laws_8])), (q_sound_lawStarts, .inl (cI, 4, .inl (upd f_sound_lawStarts 0 0))), (q_sound_partCounts, .inl (cI, 4, .inl (upd (upd f_sound_partCounts 0 0) 0 1))), (q_sound_steps, .inl (cI, 404, .inl (upd f_sound_steps 0 (-3)))), (q_sound_partEnds, .inl (cI, 52, .inl (upd f_sound_partEnds 0 1)))] H := hP.sub [2, 0, 3, 1, 4] rfl
  replace hD : va_D A [(q_sound_laws, .inr (1, [.ref q_sound_steps, .ref q_sound_partEnds, .ref q_sound_lawStarts, .ref q_sound_partCounts, u_sound_laws_4, u_sound_laws_5, .int 1, .int 0, u_sound_laws_8])), (q_sound_lawStarts, .inl (cI, 4, .inl (upd f_sound_lawStarts 0 0))), (q_sound_partCounts, .inl (cI, 4, .inl (upd (upd f_sound_partCounts 0 0) 0 1))), (q_sound_steps, .inl (cI, 404, .inl (upd f_sound_steps 0 (-3)))), (q_sound_partEnds, .inl (cI, 52, .inl (upd f_sound_partEnds 0 1)))] := hD.sub [2, 0, 3, 1, 4] (by decide) rfl
  refine lv_aload_n hx hb dX1_clear_19 rfl (lv_at hl 0 rfl) ?_
  refine lv_iconst (v := 1) hx hb dX1_clear_20 (by decide) ?_
  refine q_gov (wr := [(q_sound_steps, .inl (cI, 404, .inl (upd f_sound_steps 0 (-3)))), (q_sound_partEnds, .inl (cI, 52, .inl (upd f_sound_partEnds 0 1)))]) (va_runV (As := [.int 1]) (rest := []) C (k_begin1 l dC dI cB cI cJ cZ cS (q_sound_laws) (q_sound_lawStarts) (q_sound_partCounts) (.ref q_sound_steps) (.ref q_sound_partEnds) (u_sound_laws_4) (u_sound_laws_5) (0) (u_sound_laws_8) ((upd f_sound_lawStarts 0 0)) ((upd (upd f_sound_partCounts 0 0) 0 1)) _) (cwV 1 hts gX1_clear_X1_begin rfl rfl rfl (by decide +kernel) ⟨Nat.le_of_ble_eq_true rfl, Nat.le_of_ble_eq_true rfl⟩) (q_preV hK hP (ci := 1) (q0 := 0) rfl rfl rfl (q_pre hN hK hP hD [0, 1, 2] rfl (by decide))) rfl rfl hl.1 rfl (lv_room (Nat.le_of_ble_eq_true rfl)) dX1_clear_21 ⟨Nat.le_of_ble_eq_true rfl, Nat.le_of_ble_eq_true rfl⟩) hP hD hS hA [0, 1, 2] [3, 4] rfl rfl (by decide +kernel) (by decide +kernel) (fun w1 H locs hw hP hD hS => ?_)
  obtain rfl := hw
  replace hP : va_P (dC, dI) vwCl [(q_sound_laws, .inr (1, [.ref q_sound_steps, .ref q_sound_partEnds, .ref q_sound_lawStarts, .ref q_sound_partCounts, u_sound_laws_4, u_sound_laws_5, .int 1, .int 1, u_sound_laws_8])), (q_sound_lawStarts, .inl (cI, 4, .inl (upd (upd f_sound_lawStarts 0 0) 1 1))), (q_sound_partCounts, .inl (cI, 4, .inl (upd (upd (upd f_sound_partCounts 0 0) 0 1) 1 0))), (q_sound_steps, .inl (cI, 404, .inl (upd f_sound_steps 0 (-3)))), (q_sound_partEnds, .inl (cI, 52, .inl (upd f_sound_partEnds 0 1)))] H := hP.sub [2, 3, 4, 0, 1] rfl
  replace hD : va_D A [(q_sound_laws, .inr (1, [.ref q_sound_steps, .ref q_sound_partEnds, .ref q_sound_lawStarts, .ref q_sound_partCounts, u_sound_laws_4, u_sound_laws_5, .int 1, .int 1, u_sound_laws_8])), (q_sound_lawStarts, .inl (cI, 4, .inl (upd (upd f_sound_lawStarts 0 0) 1 1))), (q_sound_partCounts, .inl (cI, 4, .inl (upd (upd (upd f_sound_partCounts 0 0) 0 1) 1 0))), (q_sound_steps, .inl (cI, 404, .inl (upd f_sound_steps 0 (-3)))), (q_sound_partEnds, .inl (cI, 52, .inl (upd f_sound_partEnds 0 1)))] := hD.sub [2, 3, 4, 0, 1] (by decide) rfl
  refine lv_aload_n hx hb dX1_clear_24 rfl (lv_at hl 0 rfl) ?_
  refine lv_iconst (v := 1) hx hb dX1_clear_25 (by decide) ?_
  refine q_gov (wr := [(q_sound_lawStarts, .inl (cI, 4, .inl (upd (upd f_sound_lawStarts 0 0) 1 1))), (q_sound_partCounts, .inl (cI, 4, .inl (upd (upd (upd f_sound_partCounts 0 0) 0 1) 1 0))), (q_sound_partEnds, .inl (cI, 52, .inl (upd f_sound_partEnds 0 1)))]) (va_runV (As := [.int 1]) (rest := []) C (k_putNumber1 l dC dI cB cI cJ cZ cS (q_sound_laws) (q_sound_steps) (.ref q_sound_partEnds) (.ref q_sound_lawStarts) (.ref q_sound_partCounts) (u_sound_laws_4) (u_sound_laws_5) (.int 1) (u_sound_laws_8) ((upd f_sound_steps 0 (-3))) _) (cwV 1 hts gX1_clear_X1_putNumber rfl rfl rfl (by decide +kernel) ⟨Nat.le_of_ble_eq_true rfl, Nat.le_of_ble_eq_true rfl⟩) (q_preV hK hP (ci := 1) (q0 := 0) rfl rfl rfl (q_pre hN hK hP hD [0, 3] rfl (by decide))) rfl rfl hl.1 rfl (lv_room (Nat.le_of_ble_eq_true rfl)) dX1_clear_26 ⟨Nat.le_of_ble_eq_true rfl, Nat.le_of_ble_eq_true rfl⟩) hP hD hS hA [0, 3] [1, 2, 4] rfl rfl (by decide +kernel) (by decide +kernel) (fun w1 H locs hw hP hD hS => ?_)
  obtain rfl := hw
  replace hP : va_P (dC, dI) vwCl [(q_sound_laws, .inr (1, [.ref q_sound_steps, .ref q_sound_partEnds, .ref q_sound_lawStarts, .ref q_sound_partCounts, u_sound_laws_4, u_sound_laws_5, .int 2, .int 1, u_sound_laws_8])), (q_sound_lawStarts, .inl (cI, 4, .inl (upd (upd f_sound_lawStarts 0 0) 1 1))), (q_sound_partCounts, .inl (cI, 4, .inl (upd (upd (upd f_sound_partCounts 0 0) 0 1) 1 0))), (q_sound_steps, .inl (cI, 404, .inl (upd (upd f_sound_steps 0 (-3)) 1 1))), (q_sound_partEnds, .inl (cI, 52, .inl (upd f_sound_partEnds 0 1)))] H := hP.sub [3, 0, 1, 4, 2] rfl
  replace hD : va_D A [(q_sound_laws, .inr (1, [.ref q_sound_steps, .ref q_sound_partEnds, .ref q_sound_lawStarts, .ref q_sound_partCounts, u_sound_laws_4, u_sound_laws_5, .int 2, .int 1, u_sound_laws_8])), (q_sound_lawStarts, .inl (cI, 4, .inl (upd (upd f_sound_lawStarts 0 0) 1 1))), (q_sound_partCounts, .inl (cI, 4, .inl (upd (upd (upd f_sound_partCounts 0 0) 0 1) 1 0))), (q_sound_steps, .inl (cI, 404, .inl (upd (upd f_sound_steps 0 (-3)) 1 1))), (q_sound_partEnds, .inl (cI, 52, .inl (upd f_sound_partEnds 0 1)))] := hD.sub [3, 0, 1, 4, 2] (by decide) rfl
  refine lv_aload_n hx hb dX1_clear_29 rfl (lv_at hl 0 rfl) ?_
  refine q_gov (wr := [(q_sound_lawStarts, .inl (cI, 4, .inl (upd (upd f_sound_lawStarts 0 0) 1 1))), (q_sound_steps, .inl (cI, 404, .inl (upd (upd f_sound_steps 0 (-3)) 1 1)))]) (va_runV (As := []) (rest := []) C (k_endPart1 l dC dI cB cI cJ cZ cS (q_sound_laws) (q_sound_partEnds) (q_sound_partCounts) (.ref q_sound_steps) (.ref q_sound_lawStarts) (u_sound_laws_4) (u_sound_laws_5) (u_sound_laws_8) ((upd (upd (upd f_sound_partCounts 0 0) 0 1) 1 0)) ((upd f_sound_partEnds 0 1)) rfl _) (cwV 0 hts gX1_clear_X1_endPart rfl rfl rfl (by decide +kernel) ⟨Nat.le_of_ble_eq_true rfl, Nat.le_of_ble_eq_true rfl⟩) (q_preV hK hP (ci := 1) (q0 := 0) rfl rfl rfl (q_pre hN hK hP hD [0, 2, 4] rfl (by decide))) rfl rfl hl.1 rfl (lv_room (Nat.le_of_ble_eq_true rfl)) dX1_clear_30 ⟨Nat.le_of_ble_eq_true rfl, Nat.le_of_ble_eq_true rfl⟩) hP hD hS hA [0, 2, 4] [1, 3] rfl rfl (by decide +kernel) (by decide +kernel) (fun w1 H locs hw hP hD hS => ?_)
  obtain rfl := hw
  replace hP : va_P (dC, dI) vwCl [(q_sound_laws, .inr (1, [.ref q_sound_steps, .ref q_sound_partEnds, .ref q_sound_lawStarts, .ref q_sound_partCounts, u_sound_laws_4, u_sound_laws_5, .int 2, .int 1, u_sound_laws_8])), (q_sound_lawStarts, .inl (cI, 4, .inl (upd (upd f_sound_lawStarts 0 0) 1 1))), (q_sound_partCounts, .inl (cI, 4, .inl (upd (upd (upd (upd f_sound_partCounts 0 0) 0 1) 1 0) 1 1))), (q_sound_steps, .inl (cI, 404, .inl (upd (upd f_sound_steps 0 (-3)) 1 1))), (q_sound_partEnds, .inl (cI, 52, .inl (upd (upd f_sound_partEnds 0 1) 13 2)))] H := hP.sub [2, 0, 3, 1, 4] rfl
  replace hD : va_D A [(q_sound_laws, .inr (1, [.ref q_sound_steps, .ref q_sound_partEnds, .ref q_sound_lawStarts, .ref q_sound_partCounts, u_sound_laws_4, u_sound_laws_5, .int 2, .int 1, u_sound_laws_8])), (q_sound_lawStarts, .inl (cI, 4, .inl (upd (upd f_sound_lawStarts 0 0) 1 1))), (q_sound_partCounts, .inl (cI, 4, .inl (upd (upd (upd (upd f_sound_partCounts 0 0) 0 1) 1 0) 1 1))), (q_sound_steps, .inl (cI, 404, .inl (upd (upd f_sound_steps 0 (-3)) 1 1))), (q_sound_partEnds, .inl (cI, 52, .inl (upd (upd f_sound_partEnds 0 1) 13 2)))] := hD.sub [2, 0, 3, 1, 4] (by decide) rfl
  refine lv_aload_n hx hb dX1_clear_33 rfl (lv_at hl 0 rfl) ?_
  refine lv_iconst (v := 2) hx hb dX1_clear_34 (by decide) ?_
  refine q_gov (wr := [(q_sound_steps, .inl (cI, 404, .inl (upd (upd f_sound_steps 0 (-3)) 1 1))), (q_sound_partEnds, .inl (cI, 52, .inl (upd (upd f_sound_partEnds 0 1) 13 2)))]) (va_runV (As := [.int 2]) (rest := []) C (k_begin2 l dC dI cB cI cJ cZ cS (q_sound_laws) (q_sound_lawStarts) (q_sound_partCounts) (.ref q_sound_steps) (.ref q_sound_partEnds) (u_sound_laws_4) (u_sound_laws_5) (1) (u_sound_laws_8) ((upd (upd f_sound_lawStarts 0 0) 1 1)) ((upd (upd (upd (upd f_sound_partCounts 0 0) 0 1) 1 0) 1 1)) _) (cwV 1 hts gX1_clear_X1_begin rfl rfl rfl (by decide +kernel) ⟨Nat.le_of_ble_eq_true rfl, Nat.le_of_ble_eq_true rfl⟩) (q_preV hK hP (ci := 1) (q0 := 0) rfl rfl rfl (q_pre hN hK hP hD [0, 1, 2] rfl (by decide))) rfl rfl hl.1 rfl (lv_room (Nat.le_of_ble_eq_true rfl)) dX1_clear_35 ⟨Nat.le_of_ble_eq_true rfl, Nat.le_of_ble_eq_true rfl⟩) hP hD hS hA [0, 1, 2] [3, 4] rfl rfl (by decide +kernel) (by decide +kernel) (fun w1 H locs hw hP hD hS => ?_)
  obtain rfl := hw
  replace hP : va_P (dC, dI) vwCl [(q_sound_laws, .inr (1, [.ref q_sound_steps, .ref q_sound_partEnds, .ref q_sound_lawStarts, .ref q_sound_partCounts, u_sound_laws_4, u_sound_laws_5, .int 2, .int 2, u_sound_laws_8])), (q_sound_lawStarts, .inl (cI, 4, .inl (upd (upd (upd f_sound_lawStarts 0 0) 1 1) 2 2))), (q_sound_partCounts, .inl (cI, 4, .inl (upd (upd (upd (upd (upd f_sound_partCounts 0 0) 0 1) 1 0) 1 1) 2 0))), (q_sound_steps, .inl (cI, 404, .inl (upd (upd f_sound_steps 0 (-3)) 1 1))), (q_sound_partEnds, .inl (cI, 52, .inl (upd (upd f_sound_partEnds 0 1) 13 2)))] H := hP.sub [2, 3, 4, 0, 1] rfl
  replace hD : va_D A [(q_sound_laws, .inr (1, [.ref q_sound_steps, .ref q_sound_partEnds, .ref q_sound_lawStarts, .ref q_sound_partCounts, u_sound_laws_4, u_sound_laws_5, .int 2, .int 2, u_sound_laws_8])), (q_sound_lawStarts, .inl (cI, 4, .inl (upd (upd (upd f_sound_lawStarts 0 0) 1 1) 2 2))), (q_sound_partCounts, .inl (cI, 4, .inl (upd (upd (upd (upd (upd f_sound_partCounts 0 0) 0 1) 1 0) 1 1) 2 0))), (q_sound_steps, .inl (cI, 404, .inl (upd (upd f_sound_steps 0 (-3)) 1 1))), (q_sound_partEnds, .inl (cI, 52, .inl (upd (upd f_sound_partEnds 0 1) 13 2)))] := hD.sub [2, 3, 4, 0, 1] (by decide) rfl
  refine lv_aload_n hx hb dX1_clear_38 rfl (lv_at hl 0 rfl) ?_
  refine lv_iconst (v := 1) hx hb dX1_clear_39 (by decide) ?_
  refine q_gov (wr := [(q_sound_lawStarts, .inl (cI, 4, .inl (upd (upd (upd f_sound_lawStarts 0 0) 1 1) 2 2))), (q_sound_partCounts, .inl (cI, 4, .inl (upd (upd (upd (upd (upd f_sound_partCounts 0 0) 0 1) 1 0) 1 1) 2 0))), (q_sound_partEnds, .inl (cI, 52, .inl (upd (upd f_sound_partEnds 0 1) 13 2)))]) (va_runV (As := [.int 1]) (rest := []) C (k_putNumber2 l dC dI cB cI cJ cZ cS (q_sound_laws) (q_sound_steps) (.ref q_sound_partEnds) (.ref q_sound_lawStarts) (.ref q_sound_partCounts) (u_sound_laws_4) (u_sound_laws_5) (.int 2) (u_sound_laws_8) ((upd (upd f_sound_steps 0 (-3)) 1 1)) _) (cwV 1 hts gX1_clear_X1_putNumber rfl rfl rfl (by decide +kernel) ⟨Nat.le_of_ble_eq_true rfl, Nat.le_of_ble_eq_true rfl⟩) (q_preV hK hP (ci := 1) (q0 := 0) rfl rfl rfl (q_pre hN hK hP hD [0, 3] rfl (by decide))) rfl rfl hl.1 rfl (lv_room (Nat.le_of_ble_eq_true rfl)) dX1_clear_40 ⟨Nat.le_of_ble_eq_true rfl, Nat.le_of_ble_eq_true rfl⟩) hP hD hS hA [0, 3] [1, 2, 4] rfl rfl (by decide +kernel) (by decide +kernel) (fun w1 H locs hw hP hD hS => ?_)
  obtain rfl := hw
  replace hP : va_P (dC, dI) vwCl [(q_sound_laws, .inr (1, [.ref q_sound_steps, .ref q_sound_partEnds, .ref q_sound_lawStarts, .ref q_sound_partCounts, u_sound_laws_4, u_sound_laws_5, .int 3, .int 2, u_sound_laws_8])), (q_sound_lawStarts, .inl (cI, 4, .inl (upd (upd (upd f_sound_lawStarts 0 0) 1 1) 2 2))), (q_sound_partCounts, .inl (cI, 4, .inl (upd (upd (upd (upd (upd f_sound_partCounts 0 0) 0 1) 1 0) 1 1) 2 0))), (q_sound_steps, .inl (cI, 404, .inl (upd (upd (upd f_sound_steps 0 (-3)) 1 1) 2 1))), (q_sound_partEnds, .inl (cI, 52, .inl (upd (upd f_sound_partEnds 0 1) 13 2)))] H := hP.sub [3, 0, 1, 4, 2] rfl
  replace hD : va_D A [(q_sound_laws, .inr (1, [.ref q_sound_steps, .ref q_sound_partEnds, .ref q_sound_lawStarts, .ref q_sound_partCounts, u_sound_laws_4, u_sound_laws_5, .int 3, .int 2, u_sound_laws_8])), (q_sound_lawStarts, .inl (cI, 4, .inl (upd (upd (upd f_sound_lawStarts 0 0) 1 1) 2 2))), (q_sound_partCounts, .inl (cI, 4, .inl (upd (upd (upd (upd (upd f_sound_partCounts 0 0) 0 1) 1 0) 1 1) 2 0))), (q_sound_steps, .inl (cI, 404, .inl (upd (upd (upd f_sound_steps 0 (-3)) 1 1) 2 1))), (q_sound_partEnds, .inl (cI, 52, .inl (upd (upd f_sound_partEnds 0 1) 13 2)))] := hD.sub [3, 0, 1, 4, 2] (by decide) rfl
  refine lv_aload_n hx hb dX1_clear_43 rfl (lv_at hl 0 rfl) ?_
  refine q_gov (wr := [(q_sound_lawStarts, .inl (cI, 4, .inl (upd (upd (upd f_sound_lawStarts 0 0) 1 1) 2 2))), (q_sound_steps, .inl (cI, 404, .inl (upd (upd (upd f_sound_steps 0 (-3)) 1 1) 2 1)))]) (va_runV (As := []) (rest := []) C (k_endPart2 l dC dI cB cI cJ cZ cS (q_sound_laws) (q_sound_partEnds) (q_sound_partCounts) (.ref q_sound_steps) (.ref q_sound_lawStarts) (u_sound_laws_4) (u_sound_laws_5) (u_sound_laws_8) ((upd (upd (upd (upd (upd f_sound_partCounts 0 0) 0 1) 1 0) 1 1) 2 0)) ((upd (upd f_sound_partEnds 0 1) 13 2)) rfl _) (cwV 0 hts gX1_clear_X1_endPart rfl rfl rfl (by decide +kernel) ⟨Nat.le_of_ble_eq_true rfl, Nat.le_of_ble_eq_true rfl⟩) (q_preV hK hP (ci := 1) (q0 := 0) rfl rfl rfl (q_pre hN hK hP hD [0, 2, 4] rfl (by decide))) rfl rfl hl.1 rfl (lv_room (Nat.le_of_ble_eq_true rfl)) dX1_clear_44 ⟨Nat.le_of_ble_eq_true rfl, Nat.le_of_ble_eq_true rfl⟩) hP hD hS hA [0, 2, 4] [1, 3] rfl rfl (by decide +kernel) (by decide +kernel) (fun w1 H locs hw hP hD hS => ?_)
  obtain rfl := hw
  replace hP : va_P (dC, dI) vwCl [(q_sound_laws, .inr (1, [.ref q_sound_steps, .ref q_sound_partEnds, .ref q_sound_lawStarts, .ref q_sound_partCounts, u_sound_laws_4, u_sound_laws_5, .int 3, .int 2, u_sound_laws_8])), (q_sound_lawStarts, .inl (cI, 4, .inl (upd (upd (upd f_sound_lawStarts 0 0) 1 1) 2 2))), (q_sound_partCounts, .inl (cI, 4, .inl (upd (upd (upd (upd (upd (upd f_sound_partCounts 0 0) 0 1) 1 0) 1 1) 2 0) 2 1))), (q_sound_steps, .inl (cI, 404, .inl (upd (upd (upd f_sound_steps 0 (-3)) 1 1) 2 1))), (q_sound_partEnds, .inl (cI, 52, .inl (upd (upd (upd f_sound_partEnds 0 1) 13 2) 26 3)))] H := hP.sub [2, 0, 3, 1, 4] rfl
  replace hD : va_D A [(q_sound_laws, .inr (1, [.ref q_sound_steps, .ref q_sound_partEnds, .ref q_sound_lawStarts, .ref q_sound_partCounts, u_sound_laws_4, u_sound_laws_5, .int 3, .int 2, u_sound_laws_8])), (q_sound_lawStarts, .inl (cI, 4, .inl (upd (upd (upd f_sound_lawStarts 0 0) 1 1) 2 2))), (q_sound_partCounts, .inl (cI, 4, .inl (upd (upd (upd (upd (upd (upd f_sound_partCounts 0 0) 0 1) 1 0) 1 1) 2 0) 2 1))), (q_sound_steps, .inl (cI, 404, .inl (upd (upd (upd f_sound_steps 0 (-3)) 1 1) 2 1))), (q_sound_partEnds, .inl (cI, 52, .inl (upd (upd (upd f_sound_partEnds 0 1) 13 2) 26 3)))] := hD.sub [2, 0, 3, 1, 4] (by decide) rfl
  refine lv_aload_n hx hb dX1_clear_47 rfl (lv_at hl 0 rfl) ?_
  refine lv_iconst (v := 3) hx hb dX1_clear_48 (by decide) ?_
  refine q_gov (wr := [(q_sound_steps, .inl (cI, 404, .inl (upd (upd (upd f_sound_steps 0 (-3)) 1 1) 2 1))), (q_sound_partEnds, .inl (cI, 52, .inl (upd (upd (upd f_sound_partEnds 0 1) 13 2) 26 3)))]) (va_runV (As := [.int 3]) (rest := []) C (k_begin3 l dC dI cB cI cJ cZ cS (q_sound_laws) (q_sound_lawStarts) (q_sound_partCounts) (.ref q_sound_steps) (.ref q_sound_partEnds) (u_sound_laws_4) (u_sound_laws_5) (2) (u_sound_laws_8) ((upd (upd (upd f_sound_lawStarts 0 0) 1 1) 2 2)) ((upd (upd (upd (upd (upd (upd f_sound_partCounts 0 0) 0 1) 1 0) 1 1) 2 0) 2 1)) _) (cwV 1 hts gX1_clear_X1_begin rfl rfl rfl (by decide +kernel) ⟨Nat.le_of_ble_eq_true rfl, Nat.le_of_ble_eq_true rfl⟩) (q_preV hK hP (ci := 1) (q0 := 0) rfl rfl rfl (q_pre hN hK hP hD [0, 1, 2] rfl (by decide))) rfl rfl hl.1 rfl (lv_room (Nat.le_of_ble_eq_true rfl)) dX1_clear_49 ⟨Nat.le_of_ble_eq_true rfl, Nat.le_of_ble_eq_true rfl⟩) hP hD hS hA [0, 1, 2] [3, 4] rfl rfl (by decide +kernel) (by decide +kernel) (fun w1 H locs hw hP hD hS => ?_)
  obtain rfl := hw
  replace hP : va_P (dC, dI) vwCl [(q_sound_laws, .inr (1, [.ref q_sound_steps, .ref q_sound_partEnds, .ref q_sound_lawStarts, .ref q_sound_partCounts, u_sound_laws_4, u_sound_laws_5, .int 3, .int 3, u_sound_laws_8])), (q_sound_lawStarts, .inl (cI, 4, .inl (upd (upd (upd (upd f_sound_lawStarts 0 0) 1 1) 2 2) 3 3))), (q_sound_partCounts, .inl (cI, 4, .inl (upd (upd (upd (upd (upd (upd (upd f_sound_partCounts 0 0) 0 1) 1 0) 1 1) 2 0) 2 1) 3 0))), (q_sound_steps, .inl (cI, 404, .inl (upd (upd (upd f_sound_steps 0 (-3)) 1 1) 2 1))), (q_sound_partEnds, .inl (cI, 52, .inl (upd (upd (upd f_sound_partEnds 0 1) 13 2) 26 3)))] H := hP.sub [2, 3, 4, 0, 1] rfl
  replace hD : va_D A [(q_sound_laws, .inr (1, [.ref q_sound_steps, .ref q_sound_partEnds, .ref q_sound_lawStarts, .ref q_sound_partCounts, u_sound_laws_4, u_sound_laws_5, .int 3, .int 3, u_sound_laws_8])), (q_sound_lawStarts, .inl (cI, 4, .inl (upd (upd (upd (upd f_sound_lawStarts 0 0) 1 1) 2 2) 3 3))), (q_sound_partCounts, .inl (cI, 4, .inl (upd (upd (upd (upd (upd (upd (upd f_sound_partCounts 0 0) 0 1) 1 0) 1 1) 2 0) 2 1) 3 0))), (q_sound_steps, .inl (cI, 404, .inl (upd (upd (upd f_sound_steps 0 (-3)) 1 1) 2 1))), (q_sound_partEnds, .inl (cI, 52, .inl (upd (upd (upd f_sound_partEnds 0 1) 13 2) 26 3)))] := hD.sub [2, 3, 4, 0, 1] (by decide) rfl
  refine lv_aload_n hx hb dX1_clear_52 rfl (lv_at hl 0 rfl) ?_
  refine lv_iconst (v := 0) hx hb dX1_clear_53 (by decide) ?_
  refine q_gov (wr := [(q_sound_lawStarts, .inl (cI, 4, .inl (upd (upd (upd (upd f_sound_lawStarts 0 0) 1 1) 2 2) 3 3))), (q_sound_partCounts, .inl (cI, 4, .inl (upd (upd (upd (upd (upd (upd (upd f_sound_partCounts 0 0) 0 1) 1 0) 1 1) 2 0) 2 1) 3 0))), (q_sound_partEnds, .inl (cI, 52, .inl (upd (upd (upd f_sound_partEnds 0 1) 13 2) 26 3)))]) (va_runV (As := [.int 0]) (rest := []) C (k_putNumber3 l dC dI cB cI cJ cZ cS (q_sound_laws) (q_sound_steps) (.ref q_sound_partEnds) (.ref q_sound_lawStarts) (.ref q_sound_partCounts) (u_sound_laws_4) (u_sound_laws_5) (.int 3) (u_sound_laws_8) ((upd (upd (upd f_sound_steps 0 (-3)) 1 1) 2 1)) _) (cwV 1 hts gX1_clear_X1_putNumber rfl rfl rfl (by decide +kernel) ⟨Nat.le_of_ble_eq_true rfl, Nat.le_of_ble_eq_true rfl⟩) (q_preV hK hP (ci := 1) (q0 := 0) rfl rfl rfl (q_pre hN hK hP hD [0, 3] rfl (by decide))) rfl rfl hl.1 rfl (lv_room (Nat.le_of_ble_eq_true rfl)) dX1_clear_54 ⟨Nat.le_of_ble_eq_true rfl, Nat.le_of_ble_eq_true rfl⟩) hP hD hS hA [0, 3] [1, 2, 4] rfl rfl (by decide +kernel) (by decide +kernel) (fun w1 H locs hw hP hD hS => ?_)
  obtain rfl := hw
  replace hP : va_P (dC, dI) vwCl [(q_sound_laws, .inr (1, [.ref q_sound_steps, .ref q_sound_partEnds, .ref q_sound_lawStarts, .ref q_sound_partCounts, u_sound_laws_4, u_sound_laws_5, .int 4, .int 3, u_sound_laws_8])), (q_sound_lawStarts, .inl (cI, 4, .inl (upd (upd (upd (upd f_sound_lawStarts 0 0) 1 1) 2 2) 3 3))), (q_sound_partCounts, .inl (cI, 4, .inl (upd (upd (upd (upd (upd (upd (upd f_sound_partCounts 0 0) 0 1) 1 0) 1 1) 2 0) 2 1) 3 0))), (q_sound_steps, .inl (cI, 404, .inl (upd (upd (upd (upd f_sound_steps 0 (-3)) 1 1) 2 1) 3 0))), (q_sound_partEnds, .inl (cI, 52, .inl (upd (upd (upd f_sound_partEnds 0 1) 13 2) 26 3)))] H := hP.sub [3, 0, 1, 4, 2] rfl
  replace hD : va_D A [(q_sound_laws, .inr (1, [.ref q_sound_steps, .ref q_sound_partEnds, .ref q_sound_lawStarts, .ref q_sound_partCounts, u_sound_laws_4, u_sound_laws_5, .int 4, .int 3, u_sound_laws_8])), (q_sound_lawStarts, .inl (cI, 4, .inl (upd (upd (upd (upd f_sound_lawStarts 0 0) 1 1) 2 2) 3 3))), (q_sound_partCounts, .inl (cI, 4, .inl (upd (upd (upd (upd (upd (upd (upd f_sound_partCounts 0 0) 0 1) 1 0) 1 1) 2 0) 2 1) 3 0))), (q_sound_steps, .inl (cI, 404, .inl (upd (upd (upd (upd f_sound_steps 0 (-3)) 1 1) 2 1) 3 0))), (q_sound_partEnds, .inl (cI, 52, .inl (upd (upd (upd f_sound_partEnds 0 1) 13 2) 26 3)))] := hD.sub [3, 0, 1, 4, 2] (by decide) rfl
  refine lv_aload_n hx hb dX1_clear_57 rfl (lv_at hl 0 rfl) ?_
  refine q_gov (wr := [(q_sound_lawStarts, .inl (cI, 4, .inl (upd (upd (upd (upd f_sound_lawStarts 0 0) 1 1) 2 2) 3 3))), (q_sound_steps, .inl (cI, 404, .inl (upd (upd (upd (upd f_sound_steps 0 (-3)) 1 1) 2 1) 3 0)))]) (va_runV (As := []) (rest := []) C (k_endPart3 l dC dI cB cI cJ cZ cS (q_sound_laws) (q_sound_partEnds) (q_sound_partCounts) (.ref q_sound_steps) (.ref q_sound_lawStarts) (u_sound_laws_4) (u_sound_laws_5) (u_sound_laws_8) ((upd (upd (upd (upd (upd (upd (upd f_sound_partCounts 0 0) 0 1) 1 0) 1 1) 2 0) 2 1) 3 0)) ((upd (upd (upd f_sound_partEnds 0 1) 13 2) 26 3)) rfl _) (cwV 0 hts gX1_clear_X1_endPart rfl rfl rfl (by decide +kernel) ⟨Nat.le_of_ble_eq_true rfl, Nat.le_of_ble_eq_true rfl⟩) (q_preV hK hP (ci := 1) (q0 := 0) rfl rfl rfl (q_pre hN hK hP hD [0, 2, 4] rfl (by decide))) rfl rfl hl.1 rfl (lv_room (Nat.le_of_ble_eq_true rfl)) dX1_clear_58 ⟨Nat.le_of_ble_eq_true rfl, Nat.le_of_ble_eq_true rfl⟩) hP hD hS hA [0, 2, 4] [1, 3] rfl rfl (by decide +kernel) (by decide +kernel) (fun w1 H locs hw hP hD hS => ?_)
  obtain rfl := hw
  replace hP : va_P (dC, dI) vwCl [(q_sound_laws, .inr (1, [.ref q_sound_steps, .ref q_sound_partEnds, .ref q_sound_lawStarts, .ref q_sound_partCounts, u_sound_laws_4, u_sound_laws_5, .int 4, .int 3, u_sound_laws_8])), (q_sound_lawStarts, .inl (cI, 4, .inl (upd (upd (upd (upd f_sound_lawStarts 0 0) 1 1) 2 2) 3 3))), (q_sound_partCounts, .inl (cI, 4, .inl (upd (upd (upd (upd (upd (upd (upd (upd f_sound_partCounts 0 0) 0 1) 1 0) 1 1) 2 0) 2 1) 3 0) 3 1))), (q_sound_steps, .inl (cI, 404, .inl (upd (upd (upd (upd f_sound_steps 0 (-3)) 1 1) 2 1) 3 0))), (q_sound_partEnds, .inl (cI, 52, .inl (upd (upd (upd (upd f_sound_partEnds 0 1) 13 2) 26 3) 39 4)))] H := hP.sub [2, 0, 3, 1, 4] rfl
  replace hD : va_D A [(q_sound_laws, .inr (1, [.ref q_sound_steps, .ref q_sound_partEnds, .ref q_sound_lawStarts, .ref q_sound_partCounts, u_sound_laws_4, u_sound_laws_5, .int 4, .int 3, u_sound_laws_8])), (q_sound_lawStarts, .inl (cI, 4, .inl (upd (upd (upd (upd f_sound_lawStarts 0 0) 1 1) 2 2) 3 3))), (q_sound_partCounts, .inl (cI, 4, .inl (upd (upd (upd (upd (upd (upd (upd (upd f_sound_partCounts 0 0) 0 1) 1 0) 1 1) 2 0) 2 1) 3 0) 3 1))), (q_sound_steps, .inl (cI, 404, .inl (upd (upd (upd (upd f_sound_steps 0 (-3)) 1 1) 2 1) 3 0))), (q_sound_partEnds, .inl (cI, 52, .inl (upd (upd (upd (upd f_sound_partEnds 0 1) 13 2) 26 3) 39 4)))] := hD.sub [2, 0, 3, 1, 4] (by decide) rfl
  exact q_vret C hr hlocks hK hP hD hS (Nat.le_of_ble_eq_true rfl) (Nat.le_of_ble_eq_true rfl) dX1_clear_61 (rfl)
end
section
theorem dX1_init_0 : decode cX1_init 0 = .ok (.aload_n 0, 1) := dc1_42 (by decide +kernel)
theorem dX1_init_1 : decode cX1_init 1 = .ok (.invokespecial 9, 3) := dcw_183 (by decide +kernel)
theorem dX1_init_4 : decode cX1_init 4 = .ok (.aload_n 0, 1) := dc1_42 (by decide +kernel)
theorem dX1_init_5 : decode cX1_init 5 = .ok (.sipush 404, 3) := dcs_17 (n := 404) (by decide +kernel)
theorem dX1_init_8 : decode cX1_init 8 = .ok (.newarray .int, 2) := by decide +kernel
theorem dX1_init_10 : decode cX1_init 10 = .ok (.putfield 15, 3) := dcw_181 (by decide +kernel)
theorem dX1_init_13 : decode cX1_init 13 = .ok (.aload_n 0, 1) := dc1_42 (by decide +kernel)
theorem dX1_init_14 : decode cX1_init 14 = .ok (.bipush 52, 2) := dcb_16 (n := 52) (by decide +kernel)
theorem dX1_init_16 : decode cX1_init 16 = .ok (.newarray .int, 2) := by decide +kernel
theorem dX1_init_18 : decode cX1_init 18 = .ok (.putfield 19, 3) := dcw_181 (by decide +kernel)
theorem dX1_init_21 : decode cX1_init 21 = .ok (.aload_n 0, 1) := dc1_42 (by decide +kernel)
theorem dX1_init_22 : decode cX1_init 22 = .ok (.iconst 4, 1) := dc1_7 (by decide +kernel)
theorem dX1_init_23 : decode cX1_init 23 = .ok (.newarray .int, 2) := by decide +kernel
theorem dX1_init_25 : decode cX1_init 25 = .ok (.putfield 22, 3) := dcw_181 (by decide +kernel)
theorem dX1_init_28 : decode cX1_init 28 = .ok (.aload_n 0, 1) := dc1_42 (by decide +kernel)
theorem dX1_init_29 : decode cX1_init 29 = .ok (.iconst 4, 1) := dc1_7 (by decide +kernel)
theorem dX1_init_30 : decode cX1_init 30 = .ok (.newarray .int, 2) := by decide +kernel
theorem dX1_init_32 : decode cX1_init 32 = .ok (.putfield 25, 3) := dcw_181 (by decide +kernel)
theorem dX1_init_35 : decode cX1_init 35 = .ok (.aload_n 0, 1) := dc1_42 (by decide +kernel)
theorem dX1_init_36 : decode cX1_init 36 = .ok (.bipush 9, 2) := dcb_16 (n := 9) (by decide +kernel)
theorem dX1_init_38 : decode cX1_init 38 = .ok (.newarray .int, 2) := by decide +kernel
theorem dX1_init_40 : decode cX1_init 40 = .ok (.putfield 28, 3) := dcw_181 (by decide +kernel)
theorem dX1_init_43 : decode cX1_init 43 = .ok (.aload_n 0, 1) := dc1_42 (by decide +kernel)
theorem dX1_init_44 : decode cX1_init 44 = .ok (.bipush 16, 2) := dcb_16 (n := 16) (by decide +kernel)
theorem dX1_init_46 : decode cX1_init 46 = .ok (.newarray .int, 2) := by decide +kernel
theorem dX1_init_48 : decode cX1_init 48 = .ok (.putfield 31, 3) := dcw_181 (by decide +kernel)
theorem dX1_init_51 : decode cX1_init 51 = .ok (.return_, 1) := dc1_177 (by decide +kernel)
theorem ggX5_init_X1_init : GoodIn wsX5_init wsX1_init := gi_sub (fun w h => List.mem_cons_of_mem _ (List.mem_append_left _ (List.mem_append_left _ (List.mem_append_right _ (List.mem_append_left _ h))))) gd_wsX1_init
set_option maxRecDepth 20000 in
theorem gX5_init_X1_init_n29 : GoodIn wsX5_init (wsX1_init) := ggX5_init_X1_init
theorem ggX5_init_X5_clear : GoodIn wsX5_init wsX5_clear := gi_sub (fun w h => List.mem_cons_of_mem _ (List.mem_append_left _ (List.mem_append_left _ (List.mem_append_right _ (List.mem_append_right _ h))))) gd_wsX5_clear
set_option maxRecDepth 20000 in
theorem gX5_init_X5_clear : GoodIn wsX5_init (wsV RX5 34 RX5 yX5_clear wsX5_clear) := goodIn_app (goodIn_r _ [10, 11, 12, 13] (by decide +kernel) (by decide +kernel)) ggX5_init_X5_clear
theorem dX5_init_0 : decode cX5_init 0 = .ok (.aload_n 0, 1) := dc1_42 (by decide +kernel)
theorem dX5_init_1 : decode cX5_init 1 = .ok (.invokespecial 3, 3) := dcw_183 (by decide +kernel)
theorem dX5_init_4 : decode cX5_init 4 = .ok (.aload_n 0, 1) := dc1_42 (by decide +kernel)
theorem dX5_init_5 : decode cX5_init 5 = .ok (.bipush 30, 2) := dcb_16 (n := 30) (by decide +kernel)
theorem dX5_init_7 : decode cX5_init 7 = .ok (.newarray .int, 2) := by decide +kernel
theorem dX5_init_9 : decode cX5_init 9 = .ok (.putfield 9, 3) := dcw_181 (by decide +kernel)
theorem dX5_init_12 : decode cX5_init 12 = .ok (.aload_n 0, 1) := dc1_42 (by decide +kernel)
theorem dX5_init_13 : decode cX5_init 13 = .ok (.iconst 5, 1) := dc1_8 (by decide +kernel)
theorem dX5_init_14 : decode cX5_init 14 = .ok (.newarray .int, 2) := by decide +kernel
theorem dX5_init_16 : decode cX5_init 16 = .ok (.putfield 15, 3) := dcw_181 (by decide +kernel)
theorem dX5_init_19 : decode cX5_init 19 = .ok (.aload_n 0, 1) := dc1_42 (by decide +kernel)
theorem dX5_init_20 : decode cX5_init 20 = .ok (.iconst 5, 1) := dc1_8 (by decide +kernel)
theorem dX5_init_21 : decode cX5_init 21 = .ok (.newarray .int, 2) := by decide +kernel
theorem dX5_init_23 : decode cX5_init 23 = .ok (.putfield 18, 3) := dcw_181 (by decide +kernel)
theorem dX5_init_26 : decode cX5_init 26 = .ok (.aload_n 0, 1) := dc1_42 (by decide +kernel)
theorem dX5_init_27 : decode cX5_init 27 = .ok (.bipush 6, 2) := dcb_16 (n := 6) (by decide +kernel)
theorem dX5_init_29 : decode cX5_init 29 = .ok (.newarray .int, 2) := by decide +kernel
theorem dX5_init_31 : decode cX5_init 31 = .ok (.putfield 21, 3) := dcw_181 (by decide +kernel)
theorem dX5_init_34 : decode cX5_init 34 = .ok (.aload_n 0, 1) := dc1_42 (by decide +kernel)
theorem dX5_init_35 : decode cX5_init 35 = .ok (.bipush 6, 2) := dcb_16 (n := 6) (by decide +kernel)
theorem dX5_init_37 : decode cX5_init 37 = .ok (.newarray .int, 2) := by decide +kernel
theorem dX5_init_39 : decode cX5_init 39 = .ok (.putfield 24, 3) := dcw_181 (by decide +kernel)
theorem dX5_init_42 : decode cX5_init 42 = .ok (.aload_n 0, 1) := dc1_42 (by decide +kernel)
theorem dX5_init_43 : decode cX5_init 43 = .ok (.new 27, 3) := dcw_187 (by decide +kernel)
theorem dX5_init_46 : decode cX5_init 46 = .ok (.dup, 1) := dc1_89 (by decide +kernel)
theorem dX5_init_47 : decode cX5_init 47 = .ok (.invokespecial 29, 3) := dcw_183 (by decide +kernel)
theorem dX5_init_50 : decode cX5_init 50 = .ok (.putfield 30, 3) := dcw_181 (by decide +kernel)
theorem dX5_init_53 : decode cX5_init 53 = .ok (.aload_n 0, 1) := dc1_42 (by decide +kernel)
theorem dX5_init_54 : decode cX5_init 54 = .ok (.invokevirtual 34, 3) := dcw_182 (by decide +kernel)
theorem dX5_init_57 : decode cX5_init 57 = .ok (.return_, 1) := dc1_177 (by decide +kernel)
theorem dX7_init_0 : decode cX7_init 0 = .ok (.aload_n 0, 1) := dc1_42 (by decide +kernel)
theorem dX7_init_1 : decode cX7_init 1 = .ok (.invokespecial 3, 3) := dcw_183 (by decide +kernel)
theorem dX7_init_4 : decode cX7_init 4 = .ok (.aload_n 0, 1) := dc1_42 (by decide +kernel)
theorem dX7_init_5 : decode cX7_init 5 = .ok (.sipush 2000, 3) := dcs_17 (n := 2000) (by decide +kernel)
theorem dX7_init_8 : decode cX7_init 8 = .ok (.newarray .byte, 2) := by decide +kernel
theorem dX7_init_10 : decode cX7_init 10 = .ok (.putfield 9, 3) := dcw_181 (by decide +kernel)
theorem dX7_init_13 : decode cX7_init 13 = .ok (.return_, 1) := dc1_177 (by decide +kernel)
set_option maxHeartbeats 4000000 in
set_option maxRecDepth 100000 in
theorem k_X5_clear (l : Launch) (dC : Nat → ClassId) (dI : Nat → Nat → Nat) (cB cI cJ cZ cS : ClassId) (q_sound : Nat) (q_sound_laws : Nat) (q_sound_steps : Nat) (q_sound_partEnds : Nat) (q_sound_lawStarts : Nat) (q_sound_partCounts : Nat) (u_sound_0 : Value) (u_sound_1 : Value) (u_sound_2 : Value) (u_sound_3 : Value) (u_sound_4 : Value) (y_w : Int32) (y_p : Int32) (y_g : Int32) (y_s : Int32) (u_sound_laws_4 : Value) (u_sound_laws_5 : Value) (y_len : Int32) (y_cur : Int32) (u_sound_laws_8 : Value) (f_sound_lawStarts : Nat → Int32) (f_sound_partCounts : Nat → Int32) (f_sound_steps : Nat → Int32) (f_sound_partEnds : Nat → Int32) : CV l yX5_clear wsX5_clear ({ frames := 3, cells := 0, slots := 0, locals := 62 }) (dC, dI) (tysA cB cI cJ cZ cS) [(q_sound, .inr (5, [u_sound_0, u_sound_1, u_sound_2, u_sound_3, u_sound_4, .ref q_sound_laws, .int y_w, .int y_p, .int y_g, .int y_s])), (q_sound_laws, .inr (1, [.ref q_sound_steps, .ref q_sound_partEnds, .ref q_sound_lawStarts, .ref q_sound_partCounts, u_sound_laws_4, u_sound_laws_5, .int y_len, .int y_cur, u_sound_laws_8])), (q_sound_lawStarts, .inl (cI, 4, .inl f_sound_lawStarts)), (q_sound_partCounts, .inl (cI, 4, .inl f_sound_partCounts)), (q_sound_steps, .inl (cI, 404, .inl f_sound_steps)), (q_sound_partEnds, .inl (cI, 52, .inl f_sound_partEnds))] [.ref q_sound] (fun w => w = [(q_sound, .inr (5, [u_sound_0, u_sound_1, u_sound_2, u_sound_3, u_sound_4, .ref q_sound_laws, .int 0, .int 0, .int 1, .int 0])), (q_sound_laws, .inr (1, [.ref q_sound_steps, .ref q_sound_partEnds, .ref q_sound_lawStarts, .ref q_sound_partCounts, u_sound_laws_4, u_sound_laws_5, .int 4, .int 3, u_sound_laws_8])), (q_sound_lawStarts, .inl (cI, 4, .inl (upd (upd (upd (upd f_sound_lawStarts 0 0) 1 1) 2 2) 3 3))), (q_sound_partCounts, .inl (cI, 4, .inl (upd (upd (upd (upd (upd (upd (upd (upd f_sound_partCounts 0 0) 0 1) 1 0) 1 1) 2 0) 2 1) 3 0) 3 1))), (q_sound_steps, .inl (cI, 404, .inl (upd (upd (upd (upd f_sound_steps 0 (-3)) 1 1) 2 1) 3 0))), (q_sound_partEnds, .inl (cI, 52, .inl (upd (upd (upd (upd f_sound_partEnds 0 1) 13 2) 26 3) 39 4)))]) := by
  refine open_V (cc := cX5_clear) (maxL := 1) (ret := none) (by decide) rfl (Nat.le_of_ble_eq_true rfl) ?_
  intro p e s m below meth c A ls E
  obtain ⟨C, hr, hlocks, hnm, hA, hP, hK, hD, hN, hl⟩ := E
  obtain ⟨hx, hb, hml, hown, hts⟩ := id C
  have hS : va_S A s.heap s.heap [] := va_S.rf
  have hl : lv_has ls 1 [(0, .ref q_sound)] := hl
  have inX5 : ∀ w ∈ u_ws RX5 TX5 10, w ∈ wsX5_clear := fun w h => (List.mem_cons_of_mem _ (List.mem_append_left _ (List.mem_append_right _ h)))
  have E_X1_clear : Cond.selects RX1 yX1_clear yX1_clear ∈ wsX5_clear := (List.mem_cons_of_mem _ (List.mem_append_left _ (List.mem_append_left _ (List.mem_append_left _ (List.mem_of_getElem? (i := 7) rfl)))))
  have I_X1 : Cond.initialized RX1 ∈ wsX5_clear := (List.mem_cons_of_mem _ (List.mem_append_left _ (List.mem_append_left _ (List.mem_append_left _ (List.mem_of_getElem? (i := 6) rfl)))))
  have L30 : Cond.fieldLink RX5 30 "GuessFerry$Sound" "laws" "LGuessFerry$Laws;" ∈ wsX5_clear := (List.mem_cons_of_mem _ (List.mem_append_left _ (List.mem_append_left _ (List.mem_append_left _ (List.mem_of_getElem? (i := 4) rfl)))))
  have L37 : Cond.fieldLink RX5 37 "GuessFerry$Sound" "waves" "I" ∈ wsX5_clear := (List.mem_cons_of_mem _ (List.mem_append_left _ (List.mem_append_left _ (List.mem_append_left _ (List.mem_of_getElem? (i := 0) rfl)))))
  have L41 : Cond.fieldLink RX5 41 "GuessFerry$Sound" "parties" "I" ∈ wsX5_clear := (List.mem_cons_of_mem _ (List.mem_append_left _ (List.mem_append_left _ (List.mem_append_left _ (List.mem_of_getElem? (i := 1) rfl)))))
  have L44 : Cond.fieldLink RX5 44 "GuessFerry$Sound" "guesses" "I" ∈ wsX5_clear := (List.mem_cons_of_mem _ (List.mem_append_left _ (List.mem_append_left _ (List.mem_append_left _ (List.mem_of_getElem? (i := 2) rfl)))))
  have L47 : Cond.fieldLink RX5 47 "GuessFerry$Sound" "seed" "I" ∈ wsX5_clear := (List.mem_cons_of_mem _ (List.mem_append_left _ (List.mem_append_left _ (List.mem_append_left _ (List.mem_of_getElem? (i := 3) rfl)))))
  have N_X1_clear : Cond.instanceMethod yX1_clear ∈ wsX5_clear := (List.mem_cons_of_mem _ (List.mem_append_left _ (List.mem_append_left _ (List.mem_append_left _ (List.mem_of_getElem? (i := 5) rfl)))))
  refine lv_aload_n hx hb dX5_clear_0 rfl (lv_at hl 0 rfl) ?_
  refine lv_iconst (v := 0) hx hb dX5_clear_1 (by decide) ?_
  refine q_put (ty := .int) (w2 := [(q_sound, .inr (5, [u_sound_0, u_sound_1, u_sound_2, u_sound_3, u_sound_4, .ref q_sound_laws, .int 0, .int y_p, .int y_g, .int y_s])), (q_sound_laws, .inr (1, [.ref q_sound_steps, .ref q_sound_partEnds, .ref q_sound_lawStarts, .ref q_sound_partCounts, u_sound_laws_4, u_sound_laws_5, .int y_len, .int y_cur, u_sound_laws_8])), (q_sound_lawStarts, .inl (cI, 4, .inl f_sound_lawStarts)), (q_sound_partCounts, .inl (cI, 4, .inl f_sound_partCounts)), (q_sound_steps, .inl (cI, 404, .inl f_sound_steps)), (q_sound_partEnds, .inl (cI, 52, .inl f_sound_partEnds))]) tyX5 tyX5_ok nmX5 C inX5 hK hP hD hS 0 rfl rfl 6 (by decide) rfl L37 rfl (by decide +kernel) (rfl) rfl (Nat.le_of_ble_eq_true rfl) dX5_clear_2 rfl (fun H locs hP hD hS => ?_)
  refine lv_aload_n hx hb dX5_clear_5 rfl (lv_at hl 0 rfl) ?_
  refine lv_iconst (v := 0) hx hb dX5_clear_6 (by decide) ?_
  refine q_put (ty := .int) (w2 := [(q_sound, .inr (5, [u_sound_0, u_sound_1, u_sound_2, u_sound_3, u_sound_4, .ref q_sound_laws, .int 0, .int 0, .int y_g, .int y_s])), (q_sound_laws, .inr (1, [.ref q_sound_steps, .ref q_sound_partEnds, .ref q_sound_lawStarts, .ref q_sound_partCounts, u_sound_laws_4, u_sound_laws_5, .int y_len, .int y_cur, u_sound_laws_8])), (q_sound_lawStarts, .inl (cI, 4, .inl f_sound_lawStarts)), (q_sound_partCounts, .inl (cI, 4, .inl f_sound_partCounts)), (q_sound_steps, .inl (cI, 404, .inl f_sound_steps)), (q_sound_partEnds, .inl (cI, 52, .inl f_sound_partEnds))]) tyX5 tyX5_ok nmX5 C inX5 hK hP hD hS 0 rfl rfl 7 (by decide) rfl L41 rfl (by decide +kernel) (rfl) rfl (Nat.le_of_ble_eq_true rfl) dX5_clear_7 rfl (fun H locs hP hD hS => ?_)
  refine lv_aload_n hx hb dX5_clear_10 rfl (lv_at hl 0 rfl) ?_
  refine lv_iconst (v := 1) hx hb dX5_clear_11 (by decide) ?_
  refine q_put (ty := .int) (w2 := [(q_sound, .inr (5, [u_sound_0, u_sound_1, u_sound_2, u_sound_3, u_sound_4, .ref q_sound_laws, .int 0, .int 0, .int 1, .int y_s])), (q_sound_laws, .inr (1, [.ref q_sound_steps, .ref q_sound_partEnds, .ref q_sound_lawStarts, .ref q_sound_partCounts, u_sound_laws_4, u_sound_laws_5, .int y_len, .int y_cur, u_sound_laws_8])), (q_sound_lawStarts, .inl (cI, 4, .inl f_sound_lawStarts)), (q_sound_partCounts, .inl (cI, 4, .inl f_sound_partCounts)), (q_sound_steps, .inl (cI, 404, .inl f_sound_steps)), (q_sound_partEnds, .inl (cI, 52, .inl f_sound_partEnds))]) tyX5 tyX5_ok nmX5 C inX5 hK hP hD hS 0 rfl rfl 8 (by decide) rfl L44 rfl (by decide +kernel) (rfl) rfl (Nat.le_of_ble_eq_true rfl) dX5_clear_12 rfl (fun H locs hP hD hS => ?_)
  refine lv_aload_n hx hb dX5_clear_15 rfl (lv_at hl 0 rfl) ?_
  refine lv_iconst (v := 0) hx hb dX5_clear_16 (by decide) ?_
  refine q_put (ty := .int) (w2 := [(q_sound, .inr (5, [u_sound_0, u_sound_1, u_sound_2, u_sound_3, u_sound_4, .ref q_sound_laws, .int 0, .int 0, .int 1, .int 0])), (q_sound_laws, .inr (1, [.ref q_sound_steps, .ref q_sound_partEnds, .ref q_sound_lawStarts, .ref q_sound_partCounts, u_sound_laws_4, u_sound_laws_5, .int y_len, .int y_cur, u_sound_laws_8])), (q_sound_lawStarts, .inl (cI, 4, .inl f_sound_lawStarts)), (q_sound_partCounts, .inl (cI, 4, .inl f_sound_partCounts)), (q_sound_steps, .inl (cI, 404, .inl f_sound_steps)), (q_sound_partEnds, .inl (cI, 52, .inl f_sound_partEnds))]) tyX5 tyX5_ok nmX5 C inX5 hK hP hD hS 0 rfl rfl 9 (by decide) rfl L47 rfl (by decide +kernel) (rfl) rfl (Nat.le_of_ble_eq_true rfl) dX5_clear_17 rfl (fun H locs hP hD hS => ?_)
  refine lv_aload_n hx hb dX5_clear_20 rfl (lv_at hl 0 rfl) ?_
  refine q_get (v := .ref q_sound_laws) C inX5 hK hP 0 rfl rfl 5 (by decide) rfl L30 rfl dX5_clear_21 ?_
  refine q_gov (wr := [(q_sound, .inr (5, [u_sound_0, u_sound_1, u_sound_2, u_sound_3, u_sound_4, .ref q_sound_laws, .int 0, .int 0, .int 1, .int 0]))]) (va_runVN (As := []) (rest := []) C (k_X1_clear l dC dI cB cI cJ cZ cS (q_sound_laws) (q_sound_steps) (q_sound_partEnds) (q_sound_lawStarts) (q_sound_partCounts) (u_sound_laws_4) (u_sound_laws_5) (y_len) (y_cur) (u_sound_laws_8) (f_sound_lawStarts) (f_sound_partCounts) (f_sound_steps) (f_sound_partEnds) _) ⟨va_cnB 0 hts gX5_clear_X1_clear_n50 rfl rfl rfl (hN _ nwM_X5_50 rfl) (hts _ I_X1) (by decide +kernel) ⟨Nat.le_of_ble_eq_true rfl, Nat.le_of_ble_eq_true rfl⟩, hts _ N_X1_clear, hts _ E_X1_clear⟩ (q_preV hK hP (ci := 1) (q0 := 1) rfl rfl rfl (q_pre hN hK hP hD [1, 2, 3, 4, 5] rfl (by decide))) rfl rfl hl.1 rfl (lv_room (Nat.le_of_ble_eq_true rfl)) dX5_clear_24 ⟨Nat.le_of_ble_eq_true rfl, Nat.le_of_ble_eq_true rfl⟩) hP hD hS hA [1, 2, 3, 4, 5] [0] rfl rfl (by decide +kernel) (by decide +kernel) (fun w1 H locs hw hP hD hS => ?_)
  obtain rfl := hw
  replace hP : va_P (dC, dI) vwCl [(q_sound, .inr (5, [u_sound_0, u_sound_1, u_sound_2, u_sound_3, u_sound_4, .ref q_sound_laws, .int 0, .int 0, .int 1, .int 0])), (q_sound_laws, .inr (1, [.ref q_sound_steps, .ref q_sound_partEnds, .ref q_sound_lawStarts, .ref q_sound_partCounts, u_sound_laws_4, u_sound_laws_5, .int 4, .int 3, u_sound_laws_8])), (q_sound_lawStarts, .inl (cI, 4, .inl (upd (upd (upd (upd f_sound_lawStarts 0 0) 1 1) 2 2) 3 3))), (q_sound_partCounts, .inl (cI, 4, .inl (upd (upd (upd (upd (upd (upd (upd (upd f_sound_partCounts 0 0) 0 1) 1 0) 1 1) 2 0) 2 1) 3 0) 3 1))), (q_sound_steps, .inl (cI, 404, .inl (upd (upd (upd (upd f_sound_steps 0 (-3)) 1 1) 2 1) 3 0))), (q_sound_partEnds, .inl (cI, 52, .inl (upd (upd (upd (upd f_sound_partEnds 0 1) 13 2) 26 3) 39 4)))] H := hP.sub [0, 1, 2, 3, 4, 5] rfl
  replace hD : va_D A [(q_sound, .inr (5, [u_sound_0, u_sound_1, u_sound_2, u_sound_3, u_sound_4, .ref q_sound_laws, .int 0, .int 0, .int 1, .int 0])), (q_sound_laws, .inr (1, [.ref q_sound_steps, .ref q_sound_partEnds, .ref q_sound_lawStarts, .ref q_sound_partCounts, u_sound_laws_4, u_sound_laws_5, .int 4, .int 3, u_sound_laws_8])), (q_sound_lawStarts, .inl (cI, 4, .inl (upd (upd (upd (upd f_sound_lawStarts 0 0) 1 1) 2 2) 3 3))), (q_sound_partCounts, .inl (cI, 4, .inl (upd (upd (upd (upd (upd (upd (upd (upd f_sound_partCounts 0 0) 0 1) 1 0) 1 1) 2 0) 2 1) 3 0) 3 1))), (q_sound_steps, .inl (cI, 404, .inl (upd (upd (upd (upd f_sound_steps 0 (-3)) 1 1) 2 1) 3 0))), (q_sound_partEnds, .inl (cI, 52, .inl (upd (upd (upd (upd f_sound_partEnds 0 1) 13 2) 26 3) 39 4)))] := hD.sub [0, 1, 2, 3, 4, 5] (by decide) rfl
  exact q_vret C hr hlocks hK hP hD hS (Nat.le_of_ble_eq_true rfl) (Nat.le_of_ble_eq_true rfl) dX5_clear_27 (rfl)

set_option maxHeartbeats 4000000 in
set_option maxRecDepth 100000 in
theorem k_fill5 (l : Launch) (dC : Nat → ClassId) (dI : Nat → Nat → Nat) (cB cI cJ cZ cS : ClassId) (q_arr5 : Nat) (f_arr5 : Nat → Int32) (x1 : Int32) : CV l yJ7_fill_53178 wsJ7_fill_53178 ({ frames := 0, cells := 0, slots := 0, locals := 0 }) (dC, dI) (tysA cB cI cJ cZ cS) [(q_arr5, .inl (cI, 5, .inl f_arr5))] [.ref q_arr5, .int x1] (fun w => ∃ φ : Nat → Int32, (∀ j, j < 5 → φ j = x1) ∧ w = [(q_arr5, .inl (cI, 5, .inl φ))]) := by
  refine open_V (cc := cJ7_fill_53178) (maxL := 4) (ret := none) (by decide) rfl (Nat.le_of_ble_eq_true rfl) ?_
  intro p e s m below meth c A ls E
  obtain ⟨C, hr, hlocks, hnm, hA, hP, hK, hD, hN, hl⟩ := E
  obtain ⟨hx, hb, hml, hown, hts⟩ := id C
  have hS : va_S A s.heap s.heap [] := va_S.rf
  have hl : lv_has ls 4 [(0, .ref q_arr5), (1, .int x1)] := hl
  refine lv_iconst (v := 0) hx hb dJ7_fill_53178_0 (by decide) ?_
  refine lv_istore_n (lv' := [(2, .int 0), (0, .ref q_arr5), (1, .int x1)]) hx hb dJ7_fill_53178_1 rfl hl (by decide) rfl (fun ls hl => ?_)
  refine lv_aload_n hx hb dJ7_fill_53178_2 rfl (lv_at hl 1 rfl) ?_
  refine q_alen (v := 5) C hK hP 0 1 rfl rfl dJ7_fill_53178_3 rfl ?_
  refine lv_istore_n (lv' := [(3, .int 5), (2, .int 0), (0, .ref q_arr5), (1, .int x1)]) hx hb dJ7_fill_53178_4 rfl hl (by decide) rfl (fun ls hl => ?_)
  have loop1 : ∀ (n i : Nat), i + n = 5 → ∀ (φ0 : Nat → Int32) (H : Heap) (locs : List Loc) (ls : Array Slot), va_P (dC, dI) vwCl [(q_arr5, .inl (cI, 5, .inl φ0))] H → va_D A [(q_arr5, .inl (cI, 5, .inl φ0))] → va_S A s.heap H locs → lv_has ls 4 [(2, .int (nI i)), (0, .ref q_arr5), (1, .int x1), (3, .int 5)] → (∀ j, j < i → φ0 j = x1) → W p l e ({ frames := 0, cells := 0, slots := 0, locals := 0 }) s m [Value.ref q_arr5, Value.int x1].toArray below meth c H locs 0 0 (MQ below (va_Qv (fun w => ∃ φ : Nat → Int32, (∀ j, j < 5 → φ j = x1) ∧ w = [(q_arr5, .inl (cI, 5, .inl φ))]) (at_W (dC, dI) (tysA cB cI cJ cZ cS) A) A) [Value.ref q_arr5, Value.int x1].toArray s 0 0 A) (F0 m 5 ls []) := by
    intro n
    induction n with
    | zero =>
      intro i hi φ0 H locs ls hP hD hS hl hφ0
      obtain rfl : i = 5 := by omega
      refine lv_iload_n hx hb dJ7_fill_53178_5 rfl (lv_at hl 0 rfl) ?_
      refine lv_iload_n hx hb dJ7_fill_53178_6 rfl (lv_at hl 3 rfl) ?_
      refine lv_icmp_ge (tgt := 20) hx hb dJ7_fill_53178_7 (by decide) (fun _ => ?_) (fun h => absurd (by decide +kernel) h)
      exact q_vret C hr hlocks hK hP hD hS (Nat.le_of_ble_eq_true rfl) (Nat.le_of_ble_eq_true rfl) dJ7_fill_53178_20 (⟨φ0, hφ0, rfl⟩)
    | succ n ih =>
      intro i hi φ0 H locs ls hP hD hS hl hφ0
      refine lv_iload_n hx hb dJ7_fill_53178_5 rfl (lv_at hl 0 rfl) ?_
      refine lv_iload_n hx hb dJ7_fill_53178_6 rfl (lv_at hl 3 rfl) ?_
      refine lv_icmp_ge (tgt := 20) hx hb dJ7_fill_53178_7 (by decide) (fun h => absurd h (nI_nge (n := 5) (by omega) (by omega))) (fun _ => ?_)
      refine lv_aload_n hx hb dJ7_fill_53178_10 rfl (lv_at hl 1 rfl) ?_
      refine lv_iload_n hx hb dJ7_fill_53178_11 rfl (lv_at hl 0 rfl) ?_
      refine lv_iload_n hx hb dJ7_fill_53178_12 rfl (lv_at hl 2 rfl) ?_
      refine q_iast (f2 := (upd φ0 (Int32.toNatClampNeg (nI i)) x1)) (w2 := [(q_arr5, .inl (cI, 5, .inl (upd φ0 (Int32.toNatClampNeg (nI i)) x1)))]) C hK hP hD hS 0 1 rfl rfl (vp_in_nI (by omega) (by omega)) dJ7_fill_53178_13 rfl rfl (fun H locs hP hD hS => ?_)
      refine lv_iinc (v := (nI (i + 1))) (lv' := [(2, .int (nI (i + 1))), (0, .ref q_arr5), (1, .int x1), (3, .int 5)]) hx hb dJ7_fill_53178_14 hl (k := 0) rfl (nI_1 i) (by decide) rfl (fun ls hl => ?_)
      refine lv_goto (tgt := 5) hx hb dJ7_fill_53178_17 (by decide) ?_
      exact ih (i + 1) (by omega) (upd φ0 (Int32.toNatClampNeg (nI i)) x1) H locs ls hP hD hS (lv_sub hl [0, 1, 2, 3] rfl) (fun j hj => by show upd φ0 (Int32.toNatClampNeg (nI i)) x1 j = x1; rw [nI_clamp (by omega)]; unfold upd; split <;> first | rfl | exact hφ0 j (by omega))
  exact loop1 5 0 (by omega) f_arr5 _ _ ls hP hD hS (lv_sub hl [1, 2, 3, 0] rfl) (fun j hj => absurd hj (by omega))

set_option maxHeartbeats 4000000 in
set_option maxRecDepth 100000 in
theorem k_fill6 (l : Launch) (dC : Nat → ClassId) (dI : Nat → Nat → Nat) (cB cI cJ cZ cS : ClassId) (q_arr6 : Nat) (f_arr6 : Nat → Int32) (x1 : Int32) : CV l yJ7_fill_53178 wsJ7_fill_53178 ({ frames := 0, cells := 0, slots := 0, locals := 0 }) (dC, dI) (tysA cB cI cJ cZ cS) [(q_arr6, .inl (cI, 6, .inl f_arr6))] [.ref q_arr6, .int x1] (fun w => ∃ φ : Nat → Int32, (∀ j, j < 6 → φ j = x1) ∧ w = [(q_arr6, .inl (cI, 6, .inl φ))]) := by
  refine open_V (cc := cJ7_fill_53178) (maxL := 4) (ret := none) (by decide) rfl (Nat.le_of_ble_eq_true rfl) ?_
  intro p e s m below meth c A ls E
  obtain ⟨C, hr, hlocks, hnm, hA, hP, hK, hD, hN, hl⟩ := E
  obtain ⟨hx, hb, hml, hown, hts⟩ := id C
  have hS : va_S A s.heap s.heap [] := va_S.rf
  have hl : lv_has ls 4 [(0, .ref q_arr6), (1, .int x1)] := hl
  refine lv_iconst (v := 0) hx hb dJ7_fill_53178_0 (by decide) ?_
  refine lv_istore_n (lv' := [(2, .int 0), (0, .ref q_arr6), (1, .int x1)]) hx hb dJ7_fill_53178_1 rfl hl (by decide) rfl (fun ls hl => ?_)
  refine lv_aload_n hx hb dJ7_fill_53178_2 rfl (lv_at hl 1 rfl) ?_
  refine q_alen (v := 6) C hK hP 0 1 rfl rfl dJ7_fill_53178_3 rfl ?_
  refine lv_istore_n (lv' := [(3, .int 6), (2, .int 0), (0, .ref q_arr6), (1, .int x1)]) hx hb dJ7_fill_53178_4 rfl hl (by decide) rfl (fun ls hl => ?_)
  have loop1 : ∀ (n i : Nat), i + n = 6 → ∀ (φ0 : Nat → Int32) (H : Heap) (locs : List Loc) (ls : Array Slot), va_P (dC, dI) vwCl [(q_arr6, .inl (cI, 6, .inl φ0))] H → va_D A [(q_arr6, .inl (cI, 6, .inl φ0))] → va_S A s.heap H locs → lv_has ls 4 [(2, .int (nI i)), (0, .ref q_arr6), (1, .int x1), (3, .int 6)] → (∀ j, j < i → φ0 j = x1) → W p l e ({ frames := 0, cells := 0, slots := 0, locals := 0 }) s m [Value.ref q_arr6, Value.int x1].toArray below meth c H locs 0 0 (MQ below (va_Qv (fun w => ∃ φ : Nat → Int32, (∀ j, j < 6 → φ j = x1) ∧ w = [(q_arr6, .inl (cI, 6, .inl φ))]) (at_W (dC, dI) (tysA cB cI cJ cZ cS) A) A) [Value.ref q_arr6, Value.int x1].toArray s 0 0 A) (F0 m 5 ls []) := by
    intro n
    induction n with
    | zero =>
      intro i hi φ0 H locs ls hP hD hS hl hφ0
      obtain rfl : i = 6 := by omega
      refine lv_iload_n hx hb dJ7_fill_53178_5 rfl (lv_at hl 0 rfl) ?_
      refine lv_iload_n hx hb dJ7_fill_53178_6 rfl (lv_at hl 3 rfl) ?_
      refine lv_icmp_ge (tgt := 20) hx hb dJ7_fill_53178_7 (by decide) (fun _ => ?_) (fun h => absurd (by decide +kernel) h)
      exact q_vret C hr hlocks hK hP hD hS (Nat.le_of_ble_eq_true rfl) (Nat.le_of_ble_eq_true rfl) dJ7_fill_53178_20 (⟨φ0, hφ0, rfl⟩)
    | succ n ih =>
      intro i hi φ0 H locs ls hP hD hS hl hφ0
      refine lv_iload_n hx hb dJ7_fill_53178_5 rfl (lv_at hl 0 rfl) ?_
      refine lv_iload_n hx hb dJ7_fill_53178_6 rfl (lv_at hl 3 rfl) ?_
      refine lv_icmp_ge (tgt := 20) hx hb dJ7_fill_53178_7 (by decide) (fun h => absurd h (nI_nge (n := 6) (by omega) (by omega))) (fun _ => ?_)
      refine lv_aload_n hx hb dJ7_fill_53178_10 rfl (lv_at hl 1 rfl) ?_
      refine lv_iload_n hx hb dJ7_fill_53178_11 rfl (lv_at hl 0 rfl) ?_
      refine lv_iload_n hx hb dJ7_fill_53178_12 rfl (lv_at hl 2 rfl) ?_
      refine q_iast (f2 := (upd φ0 (Int32.toNatClampNeg (nI i)) x1)) (w2 := [(q_arr6, .inl (cI, 6, .inl (upd φ0 (Int32.toNatClampNeg (nI i)) x1)))]) C hK hP hD hS 0 1 rfl rfl (vp_in_nI (by omega) (by omega)) dJ7_fill_53178_13 rfl rfl (fun H locs hP hD hS => ?_)
      refine lv_iinc (v := (nI (i + 1))) (lv' := [(2, .int (nI (i + 1))), (0, .ref q_arr6), (1, .int x1), (3, .int 6)]) hx hb dJ7_fill_53178_14 hl (k := 0) rfl (nI_1 i) (by decide) rfl (fun ls hl => ?_)
      refine lv_goto (tgt := 5) hx hb dJ7_fill_53178_17 (by decide) ?_
      exact ih (i + 1) (by omega) (upd φ0 (Int32.toNatClampNeg (nI i)) x1) H locs ls hP hD hS (lv_sub hl [0, 1, 2, 3] rfl) (fun j hj => by show upd φ0 (Int32.toNatClampNeg (nI i)) x1 j = x1; rw [nI_clamp (by omega)]; unfold upd; split <;> first | rfl | exact hφ0 j (by omega))
  exact loop1 6 0 (by omega) f_arr6 _ _ ls hP hD hS (lv_sub hl [1, 2, 3, 0] rfl) (fun j hj => absurd hj (by omega))

set_option maxHeartbeats 4000000 in
set_option maxRecDepth 100000 in
theorem k_X6_startOver (l : Launch) (dC : Nat → ClassId) (dI : Nat → Nat → Nat) (cB cI cJ cZ cS : ClassId) (q_now : Nat) (q_now_found : Nat) (q_now_buoys : Nat) (q_now_shifted : Nat) (q_now_status : Nat) (q_now_goes : Nat) (f_now_found : Nat → Int32) (f_now_buoys : Nat → Int32) (f_now_shifted : Nat → Int32) (f_now_status : Nat → Int32) (f_now_goes : Nat → Int32) : CV l yX6_startOver wsX6_startOver ({ frames := 1, cells := 0, slots := 0, locals := 23 }) (dC, dI) (tysA cB cI cJ cZ cS) [(q_now, .inr (6, [.ref q_now_found, .ref q_now_buoys, .ref q_now_shifted, .ref q_now_status, .ref q_now_goes, .int 0, .int 0])), (q_now_found, .inl (cI, 5, .inl f_now_found)), (q_now_buoys, .inl (cI, 5, .inl f_now_buoys)), (q_now_shifted, .inl (cI, 5, .inl f_now_shifted)), (q_now_status, .inl (cI, 6, .inl f_now_status)), (q_now_goes, .inl (cI, 6, .inl f_now_goes))] [.ref q_now] (fun w => ∃ φf1 : Nat → Int32, ∃ φf3 : Nat → Int32, ∃ φf5 : Nat → Int32, ∃ φf7 : Nat → Int32, ∃ φf9 : Nat → Int32, (∀ j, j < 5 → φf1 j = (-1)) ∧ (∀ j, j < 5 → φf3 j = 0) ∧ (∀ j, j < 5 → φf5 j = 0) ∧ (∀ j, j < 6 → φf7 j = 0) ∧ (∀ j, j < 6 → φf9 j = 0) ∧ w = [(q_now, .inr (6, [.ref q_now_found, .ref q_now_buoys, .ref q_now_shifted, .ref q_now_status, .ref q_now_goes, .int 0, .int 0])), (q_now_found, .inl (cI, 5, .inl φf1)), (q_now_buoys, .inl (cI, 5, .inl φf3)), (q_now_shifted, .inl (cI, 5, .inl φf5)), (q_now_status, .inl (cI, 6, .inl φf7)), (q_now_goes, .inl (cI, 6, .inl φf9))]) := by
  refine open_V (cc := cX6_startOver) (maxL := 1) (ret := none) (by decide) rfl (Nat.le_of_ble_eq_true rfl) ?_
  intro p e s m below meth c A ls E
  obtain ⟨C, hr, hlocks, hnm, hA, hP, hK, hD, hN, hl⟩ := E
  obtain ⟨hx, hb, hml, hown, hts⟩ := id C
  have hS : va_S A s.heap s.heap [] := va_S.rf
  have hl : lv_has ls 1 [(0, .ref q_now)] := hl
  have inX6 : ∀ w ∈ u_ws RX6 TX6 7, w ∈ wsX6_startOver := fun w h => (List.mem_cons_of_mem _ (List.mem_append_right _ h))
  have L15 : Cond.fieldLink RX6 15 "GuessFerry$Standing" "buoys" "[I" ∈ wsX6_startOver := (List.mem_cons_of_mem _ (List.mem_append_left _ (List.mem_append_left _ (List.mem_of_getElem? (i := 1) rfl))))
  have L18 : Cond.fieldLink RX6 18 "GuessFerry$Standing" "shifted" "[I" ∈ wsX6_startOver := (List.mem_cons_of_mem _ (List.mem_append_left _ (List.mem_append_left _ (List.mem_of_getElem? (i := 2) rfl))))
  have L21 : Cond.fieldLink RX6 21 "GuessFerry$Standing" "status" "[I" ∈ wsX6_startOver := (List.mem_cons_of_mem _ (List.mem_append_left _ (List.mem_append_left _ (List.mem_of_getElem? (i := 3) rfl))))
  have L24 : Cond.fieldLink RX6 24 "GuessFerry$Standing" "goes" "[I" ∈ wsX6_startOver := (List.mem_cons_of_mem _ (List.mem_append_left _ (List.mem_append_left _ (List.mem_of_getElem? (i := 4) rfl))))
  have L33 : Cond.fieldLink RX6 33 "GuessFerry$Standing" "year" "I" ∈ wsX6_startOver := (List.mem_cons_of_mem _ (List.mem_append_left _ (List.mem_append_left _ (List.mem_of_getElem? (i := 5) rfl))))
  have L37 : Cond.fieldLink RX6 37 "GuessFerry$Standing" "paid" "I" ∈ wsX6_startOver := (List.mem_cons_of_mem _ (List.mem_append_left _ (List.mem_append_left _ (List.mem_of_getElem? (i := 6) rfl))))
  have L9 : Cond.fieldLink RX6 9 "GuessFerry$Standing" "found" "[I" ∈ wsX6_startOver := (List.mem_cons_of_mem _ (List.mem_append_left _ (List.mem_append_left _ (List.mem_of_getElem? (i := 0) rfl))))
  refine lv_aload_n hx hb dX6_startOver_0 rfl (lv_at hl 0 rfl) ?_
  refine q_get (v := .ref q_now_found) C inX6 hK hP 0 rfl rfl 0 (by decide) rfl L9 rfl dX6_startOver_1 ?_
  refine lv_iconst (v := (-1)) hx hb dX6_startOver_4 (by decide) ?_
  refine q_gov (wr := [(q_now, .inr (6, [.ref q_now_found, .ref q_now_buoys, .ref q_now_shifted, .ref q_now_status, .ref q_now_goes, .int 0, .int 0])), (q_now_buoys, .inl (cI, 5, .inl f_now_buoys)), (q_now_shifted, .inl (cI, 5, .inl f_now_shifted)), (q_now_status, .inl (cI, 6, .inl f_now_status)), (q_now_goes, .inl (cI, 6, .inl f_now_goes))]) (va_runS (As := [.ref q_now_found, .int (-1)]) (rest := []) C (k_fill5 l dC dI cB cI cJ cZ cS (q_now_found) (f_now_found) (-1) _) (va_cwS 2 hts gX6_startOver_J7_fill_53178 rfl rfl rfl (by decide +kernel) ⟨Nat.le_of_ble_eq_true rfl, Nat.le_of_ble_eq_true rfl⟩) (q_pre hN hK hP hD [1] rfl (by decide)) rfl rfl hl.1 rfl (lv_room (Nat.le_of_ble_eq_true rfl)) dX6_startOver_5 ⟨Nat.le_of_ble_eq_true rfl, Nat.le_of_ble_eq_true rfl⟩) hP hD hS hA [1] [0, 2, 3, 4, 5] rfl rfl (by decide +kernel) (by decide +kernel) (fun w1 H locs hw hP hD hS => ?_)
  obtain ⟨φf1, hφf2, rfl⟩ := hw
  replace hP : va_P (dC, dI) vwCl [(q_now, .inr (6, [.ref q_now_found, .ref q_now_buoys, .ref q_now_shifted, .ref q_now_status, .ref q_now_goes, .int 0, .int 0])), (q_now_found, .inl (cI, 5, .inl φf1)), (q_now_buoys, .inl (cI, 5, .inl f_now_buoys)), (q_now_shifted, .inl (cI, 5, .inl f_now_shifted)), (q_now_status, .inl (cI, 6, .inl f_now_status)), (q_now_goes, .inl (cI, 6, .inl f_now_goes))] H := hP.sub [0, 5, 1, 2, 3, 4] rfl
  replace hD : va_D A [(q_now, .inr (6, [.ref q_now_found, .ref q_now_buoys, .ref q_now_shifted, .ref q_now_status, .ref q_now_goes, .int 0, .int 0])), (q_now_found, .inl (cI, 5, .inl φf1)), (q_now_buoys, .inl (cI, 5, .inl f_now_buoys)), (q_now_shifted, .inl (cI, 5, .inl f_now_shifted)), (q_now_status, .inl (cI, 6, .inl f_now_status)), (q_now_goes, .inl (cI, 6, .inl f_now_goes))] := hD.sub [0, 5, 1, 2, 3, 4] (by decide) rfl
  refine lv_aload_n hx hb dX6_startOver_8 rfl (lv_at hl 0 rfl) ?_
  refine q_get (v := .ref q_now_buoys) C inX6 hK hP 0 rfl rfl 1 (by decide) rfl L15 rfl dX6_startOver_9 ?_
  refine lv_iconst (v := 0) hx hb dX6_startOver_12 (by decide) ?_
  refine q_gov (wr := [(q_now, .inr (6, [.ref q_now_found, .ref q_now_buoys, .ref q_now_shifted, .ref q_now_status, .ref q_now_goes, .int 0, .int 0])), (q_now_found, .inl (cI, 5, .inl φf1)), (q_now_shifted, .inl (cI, 5, .inl f_now_shifted)), (q_now_status, .inl (cI, 6, .inl f_now_status)), (q_now_goes, .inl (cI, 6, .inl f_now_goes))]) (va_runS (As := [.ref q_now_buoys, .int 0]) (rest := []) C (k_fill5 l dC dI cB cI cJ cZ cS (q_now_buoys) (f_now_buoys) 0 _) (va_cwS 2 hts gX6_startOver_J7_fill_53178 rfl rfl rfl (by decide +kernel) ⟨Nat.le_of_ble_eq_true rfl, Nat.le_of_ble_eq_true rfl⟩) (q_pre hN hK hP hD [2] rfl (by decide)) rfl rfl hl.1 rfl (lv_room (Nat.le_of_ble_eq_true rfl)) dX6_startOver_13 ⟨Nat.le_of_ble_eq_true rfl, Nat.le_of_ble_eq_true rfl⟩) hP hD hS hA [2] [0, 1, 3, 4, 5] rfl rfl (by decide +kernel) (by decide +kernel) (fun w1 H locs hw hP hD hS => ?_)
  obtain ⟨φf3, hφf4, rfl⟩ := hw
  replace hP : va_P (dC, dI) vwCl [(q_now, .inr (6, [.ref q_now_found, .ref q_now_buoys, .ref q_now_shifted, .ref q_now_status, .ref q_now_goes, .int 0, .int 0])), (q_now_found, .inl (cI, 5, .inl φf1)), (q_now_buoys, .inl (cI, 5, .inl φf3)), (q_now_shifted, .inl (cI, 5, .inl f_now_shifted)), (q_now_status, .inl (cI, 6, .inl f_now_status)), (q_now_goes, .inl (cI, 6, .inl f_now_goes))] H := hP.sub [0, 1, 5, 2, 3, 4] rfl
  replace hD : va_D A [(q_now, .inr (6, [.ref q_now_found, .ref q_now_buoys, .ref q_now_shifted, .ref q_now_status, .ref q_now_goes, .int 0, .int 0])), (q_now_found, .inl (cI, 5, .inl φf1)), (q_now_buoys, .inl (cI, 5, .inl φf3)), (q_now_shifted, .inl (cI, 5, .inl f_now_shifted)), (q_now_status, .inl (cI, 6, .inl f_now_status)), (q_now_goes, .inl (cI, 6, .inl f_now_goes))] := hD.sub [0, 1, 5, 2, 3, 4] (by decide) rfl
  refine lv_aload_n hx hb dX6_startOver_16 rfl (lv_at hl 0 rfl) ?_
  refine q_get (v := .ref q_now_shifted) C inX6 hK hP 0 rfl rfl 2 (by decide) rfl L18 rfl dX6_startOver_17 ?_
  refine lv_iconst (v := 0) hx hb dX6_startOver_20 (by decide) ?_
  refine q_gov (wr := [(q_now, .inr (6, [.ref q_now_found, .ref q_now_buoys, .ref q_now_shifted, .ref q_now_status, .ref q_now_goes, .int 0, .int 0])), (q_now_found, .inl (cI, 5, .inl φf1)), (q_now_buoys, .inl (cI, 5, .inl φf3)), (q_now_status, .inl (cI, 6, .inl f_now_status)), (q_now_goes, .inl (cI, 6, .inl f_now_goes))]) (va_runS (As := [.ref q_now_shifted, .int 0]) (rest := []) C (k_fill5 l dC dI cB cI cJ cZ cS (q_now_shifted) (f_now_shifted) 0 _) (va_cwS 2 hts gX6_startOver_J7_fill_53178 rfl rfl rfl (by decide +kernel) ⟨Nat.le_of_ble_eq_true rfl, Nat.le_of_ble_eq_true rfl⟩) (q_pre hN hK hP hD [3] rfl (by decide)) rfl rfl hl.1 rfl (lv_room (Nat.le_of_ble_eq_true rfl)) dX6_startOver_21 ⟨Nat.le_of_ble_eq_true rfl, Nat.le_of_ble_eq_true rfl⟩) hP hD hS hA [3] [0, 1, 2, 4, 5] rfl rfl (by decide +kernel) (by decide +kernel) (fun w1 H locs hw hP hD hS => ?_)
  obtain ⟨φf5, hφf6, rfl⟩ := hw
  replace hP : va_P (dC, dI) vwCl [(q_now, .inr (6, [.ref q_now_found, .ref q_now_buoys, .ref q_now_shifted, .ref q_now_status, .ref q_now_goes, .int 0, .int 0])), (q_now_found, .inl (cI, 5, .inl φf1)), (q_now_buoys, .inl (cI, 5, .inl φf3)), (q_now_shifted, .inl (cI, 5, .inl φf5)), (q_now_status, .inl (cI, 6, .inl f_now_status)), (q_now_goes, .inl (cI, 6, .inl f_now_goes))] H := hP.sub [0, 1, 2, 5, 3, 4] rfl
  replace hD : va_D A [(q_now, .inr (6, [.ref q_now_found, .ref q_now_buoys, .ref q_now_shifted, .ref q_now_status, .ref q_now_goes, .int 0, .int 0])), (q_now_found, .inl (cI, 5, .inl φf1)), (q_now_buoys, .inl (cI, 5, .inl φf3)), (q_now_shifted, .inl (cI, 5, .inl φf5)), (q_now_status, .inl (cI, 6, .inl f_now_status)), (q_now_goes, .inl (cI, 6, .inl f_now_goes))] := hD.sub [0, 1, 2, 5, 3, 4] (by decide) rfl
  refine lv_aload_n hx hb dX6_startOver_24 rfl (lv_at hl 0 rfl) ?_
  refine q_get (v := .ref q_now_status) C inX6 hK hP 0 rfl rfl 3 (by decide) rfl L21 rfl dX6_startOver_25 ?_
  refine lv_iconst (v := 0) hx hb dX6_startOver_28 (by decide) ?_
  refine q_gov (wr := [(q_now, .inr (6, [.ref q_now_found, .ref q_now_buoys, .ref q_now_shifted, .ref q_now_status, .ref q_now_goes, .int 0, .int 0])), (q_now_found, .inl (cI, 5, .inl φf1)), (q_now_buoys, .inl (cI, 5, .inl φf3)), (q_now_shifted, .inl (cI, 5, .inl φf5)), (q_now_goes, .inl (cI, 6, .inl f_now_goes))]) (va_runS (As := [.ref q_now_status, .int 0]) (rest := []) C (k_fill6 l dC dI cB cI cJ cZ cS (q_now_status) (f_now_status) 0 _) (va_cwS 2 hts gX6_startOver_J7_fill_53178 rfl rfl rfl (by decide +kernel) ⟨Nat.le_of_ble_eq_true rfl, Nat.le_of_ble_eq_true rfl⟩) (q_pre hN hK hP hD [4] rfl (by decide)) rfl rfl hl.1 rfl (lv_room (Nat.le_of_ble_eq_true rfl)) dX6_startOver_29 ⟨Nat.le_of_ble_eq_true rfl, Nat.le_of_ble_eq_true rfl⟩) hP hD hS hA [4] [0, 1, 2, 3, 5] rfl rfl (by decide +kernel) (by decide +kernel) (fun w1 H locs hw hP hD hS => ?_)
  obtain ⟨φf7, hφf8, rfl⟩ := hw
  replace hP : va_P (dC, dI) vwCl [(q_now, .inr (6, [.ref q_now_found, .ref q_now_buoys, .ref q_now_shifted, .ref q_now_status, .ref q_now_goes, .int 0, .int 0])), (q_now_found, .inl (cI, 5, .inl φf1)), (q_now_buoys, .inl (cI, 5, .inl φf3)), (q_now_shifted, .inl (cI, 5, .inl φf5)), (q_now_status, .inl (cI, 6, .inl φf7)), (q_now_goes, .inl (cI, 6, .inl f_now_goes))] H := hP.sub [0, 1, 2, 3, 5, 4] rfl
  replace hD : va_D A [(q_now, .inr (6, [.ref q_now_found, .ref q_now_buoys, .ref q_now_shifted, .ref q_now_status, .ref q_now_goes, .int 0, .int 0])), (q_now_found, .inl (cI, 5, .inl φf1)), (q_now_buoys, .inl (cI, 5, .inl φf3)), (q_now_shifted, .inl (cI, 5, .inl φf5)), (q_now_status, .inl (cI, 6, .inl φf7)), (q_now_goes, .inl (cI, 6, .inl f_now_goes))] := hD.sub [0, 1, 2, 3, 5, 4] (by decide) rfl
  refine lv_aload_n hx hb dX6_startOver_32 rfl (lv_at hl 0 rfl) ?_
  refine q_get (v := .ref q_now_goes) C inX6 hK hP 0 rfl rfl 4 (by decide) rfl L24 rfl dX6_startOver_33 ?_
  refine lv_iconst (v := 0) hx hb dX6_startOver_36 (by decide) ?_
  refine q_gov (wr := [(q_now, .inr (6, [.ref q_now_found, .ref q_now_buoys, .ref q_now_shifted, .ref q_now_status, .ref q_now_goes, .int 0, .int 0])), (q_now_found, .inl (cI, 5, .inl φf1)), (q_now_buoys, .inl (cI, 5, .inl φf3)), (q_now_shifted, .inl (cI, 5, .inl φf5)), (q_now_status, .inl (cI, 6, .inl φf7))]) (va_runS (As := [.ref q_now_goes, .int 0]) (rest := []) C (k_fill6 l dC dI cB cI cJ cZ cS (q_now_goes) (f_now_goes) 0 _) (va_cwS 2 hts gX6_startOver_J7_fill_53178 rfl rfl rfl (by decide +kernel) ⟨Nat.le_of_ble_eq_true rfl, Nat.le_of_ble_eq_true rfl⟩) (q_pre hN hK hP hD [5] rfl (by decide)) rfl rfl hl.1 rfl (lv_room (Nat.le_of_ble_eq_true rfl)) dX6_startOver_37 ⟨Nat.le_of_ble_eq_true rfl, Nat.le_of_ble_eq_true rfl⟩) hP hD hS hA [5] [0, 1, 2, 3, 4] rfl rfl (by decide +kernel) (by decide +kernel) (fun w1 H locs hw hP hD hS => ?_)
  obtain ⟨φf9, hφf10, rfl⟩ := hw
  replace hP : va_P (dC, dI) vwCl [(q_now, .inr (6, [.ref q_now_found, .ref q_now_buoys, .ref q_now_shifted, .ref q_now_status, .ref q_now_goes, .int 0, .int 0])), (q_now_found, .inl (cI, 5, .inl φf1)), (q_now_buoys, .inl (cI, 5, .inl φf3)), (q_now_shifted, .inl (cI, 5, .inl φf5)), (q_now_status, .inl (cI, 6, .inl φf7)), (q_now_goes, .inl (cI, 6, .inl φf9))] H := hP.sub [0, 1, 2, 3, 4, 5] rfl
  replace hD : va_D A [(q_now, .inr (6, [.ref q_now_found, .ref q_now_buoys, .ref q_now_shifted, .ref q_now_status, .ref q_now_goes, .int 0, .int 0])), (q_now_found, .inl (cI, 5, .inl φf1)), (q_now_buoys, .inl (cI, 5, .inl φf3)), (q_now_shifted, .inl (cI, 5, .inl φf5)), (q_now_status, .inl (cI, 6, .inl φf7)), (q_now_goes, .inl (cI, 6, .inl φf9))] := hD.sub [0, 1, 2, 3, 4, 5] (by decide) rfl
  refine lv_aload_n hx hb dX6_startOver_40 rfl (lv_at hl 0 rfl) ?_
  refine lv_iconst (v := 0) hx hb dX6_startOver_41 (by decide) ?_
  refine q_put (ty := .int) (w2 := [(q_now, .inr (6, [.ref q_now_found, .ref q_now_buoys, .ref q_now_shifted, .ref q_now_status, .ref q_now_goes, .int 0, .int 0])), (q_now_found, .inl (cI, 5, .inl φf1)), (q_now_buoys, .inl (cI, 5, .inl φf3)), (q_now_shifted, .inl (cI, 5, .inl φf5)), (q_now_status, .inl (cI, 6, .inl φf7)), (q_now_goes, .inl (cI, 6, .inl φf9))]) tyX6 tyX6_ok nmX6 C inX6 hK hP hD hS 0 rfl rfl 5 (by decide) rfl L33 rfl (by decide +kernel) (rfl) rfl (Nat.le_of_ble_eq_true rfl) dX6_startOver_42 rfl (fun H locs hP hD hS => ?_)
  refine lv_aload_n hx hb dX6_startOver_45 rfl (lv_at hl 0 rfl) ?_
  refine lv_iconst (v := 0) hx hb dX6_startOver_46 (by decide) ?_
  refine q_put (ty := .int) (w2 := [(q_now, .inr (6, [.ref q_now_found, .ref q_now_buoys, .ref q_now_shifted, .ref q_now_status, .ref q_now_goes, .int 0, .int 0])), (q_now_found, .inl (cI, 5, .inl φf1)), (q_now_buoys, .inl (cI, 5, .inl φf3)), (q_now_shifted, .inl (cI, 5, .inl φf5)), (q_now_status, .inl (cI, 6, .inl φf7)), (q_now_goes, .inl (cI, 6, .inl φf9))]) tyX6 tyX6_ok nmX6 C inX6 hK hP hD hS 0 rfl rfl 6 (by decide) rfl L37 rfl (by decide +kernel) (rfl) rfl (Nat.le_of_ble_eq_true rfl) dX6_startOver_47 rfl (fun H locs hP hD hS => ?_)
  exact q_vret C hr hlocks hK hP hD hS (Nat.le_of_ble_eq_true rfl) (Nat.le_of_ble_eq_true rfl) dX6_startOver_50 (⟨φf1, φf3, φf5, φf7, φf9, hφf2, hφf4, hφf6, hφf8, hφf10, rfl⟩)

set_option maxHeartbeats 4000000 in
set_option maxRecDepth 100000 in
theorem k_X7_init (l : Launch) (dC : Nat → ClassId) (dI : Nat → Nat → Nat) (cB cI cJ cZ cS : ClassId) (q_tape : Nat) (u_tape_1 : Value) : CV l yX7_init wsX7_init ({ frames := 1, cells := 1, slots := 2000, locals := 24 }) (dC, dI) (tysA cB cI cJ cZ cS) [(q_tape, .inr (7, [.null, u_tape_1]))] [.ref q_tape] (fun w => ∃ q_tape_bytes : Nat, w = [(q_tape, .inr (7, [.ref q_tape_bytes, u_tape_1])), (q_tape_bytes, .inl (cB, 2000, .inl (fun _ => 0)))]) := by
  refine open_V (cc := cX7_init) (maxL := 1) (ret := none) (by decide) rfl (Nat.le_of_ble_eq_true rfl) ?_
  intro p e s m below meth c A ls E
  obtain ⟨C, hr, hlocks, hnm, hA, hP, hK, hD, hN, hl⟩ := E
  obtain ⟨hx, hb, hml, hown, hts⟩ := id C
  have hS : va_S A s.heap s.heap [] := va_S.rf
  have hl : lv_has ls 1 [(0, .ref q_tape)] := hl
  have inX7 : ∀ w ∈ u_ws RX7 TX7 2, w ∈ wsX7_init := fun w h => (List.mem_cons_of_mem _ (List.mem_append_right _ h))
  have ACB : Cond.arrayClass .byte ∈ wsX7_init := (List.mem_cons_of_mem _ (List.mem_append_left _ (List.mem_of_getElem? (i := 3) rfl)))
  have L9 : Cond.fieldLink RX7 9 "GuessFerry$Tape" "bytes" "[B" ∈ wsX7_init := (List.mem_cons_of_mem _ (List.mem_append_left _ (List.mem_of_getElem? (i := 4) rfl)))
  have OC : Cond.code Lib.objectInit ⟨#[0xb1]⟩ 1 none ∈ wsX7_init := by decide +kernel
  have OI : Cond.instanceMethod Lib.objectInit ∈ wsX7_init := by decide +kernel
  have OL3 : Cond.methodLink RX7 3 Lib.objectInit ∈ wsX7_init := by decide +kernel
  refine lv_aload_n hx hb dX7_init_0 rfl (lv_at hl 0 rfl) ?_
  refine W.objInit hx hb hown (hts _ OL3) (hts _ OI) (hts _ OC) rfl (by rw [hml]; exact hl.1) rfl dX7_init_1 (Nat.le_of_ble_eq_true rfl) (Nat.le_of_ble_eq_true rfl) ?_
  refine W.eq (g2 := F0 m 4 ls []) rfl ?_
  refine lv_aload_n hx hb dX7_init_4 rfl (lv_at hl 0 rfl) ?_
  refine lv_sipush (v := 2000) hx hb dX7_init_5 (by decide) ?_
  refine q_newa (atype := .byte) (ty := .byte) (N' := 2000) (2000, .inl (fun _ => 0)) C ACB rfl (fun _ => rfl) hK hP hD hS hA 0 rfl (fun _ => rfl) (by decide) (by decide +kernel) (by decide +kernel) (Nat.le_of_ble_eq_true rfl) (Nat.le_of_ble_eq_true rfl) dX7_init_8 (fun q_tape_bytes H hP hD hS => ?_)
  refine q_putF (ty := .array .byte) (w2 := [(q_tape, .inr (7, [.ref q_tape_bytes, u_tape_1])), (q_tape_bytes, .inl (cB, 2000, .inl (fun _ => 0)))]) tyX7 tyX7_ok nmX7 C inX7 hK hP hD hS 0 rfl rfl 0 (by decide) rfl rfl hnm L9 rfl (by decide +kernel) (rfl) rfl (Nat.le_of_ble_eq_true rfl) dX7_init_10 rfl (fun H locs hP hD hS => ?_)
  exact q_vret C hr hlocks hK hP hD hS (Nat.le_of_ble_eq_true rfl) (Nat.le_of_ble_eq_true rfl) dX7_init_13 (⟨q_tape_bytes, rfl⟩)

set_option maxHeartbeats 4000000 in
set_option maxRecDepth 100000 in
theorem k_X1_init (l : Launch) (dC : Nat → ClassId) (dI : Nat → Nat → Nat) (cB cI cJ cZ cS : ClassId) (q_sound_laws : Nat) (u_sound_laws_6 : Value) (u_sound_laws_7 : Value) (u_sound_laws_8 : Value) : CV l yX1_init wsX1_init ({ frames := 1, cells := 6, slots := 489, locals := 24 }) (dC, dI) (tysA cB cI cJ cZ cS) [(q_sound_laws, .inr (1, [.null, .null, .null, .null, .null, .null, u_sound_laws_6, u_sound_laws_7, u_sound_laws_8]))] [.ref q_sound_laws] (fun w => ∃ q_sound_laws_steps : Nat, ∃ q_sound_laws_partEnds : Nat, ∃ q_sound_laws_lawStarts : Nat, ∃ q_sound_laws_partCounts : Nat, ∃ q_sound_laws_vars : Nat, ∃ q_sound_laws_stack : Nat, w = [(q_sound_laws, .inr (1, [.ref q_sound_laws_steps, .ref q_sound_laws_partEnds, .ref q_sound_laws_lawStarts, .ref q_sound_laws_partCounts, .ref q_sound_laws_vars, .ref q_sound_laws_stack, u_sound_laws_6, u_sound_laws_7, u_sound_laws_8])), (q_sound_laws_steps, .inl (cI, 404, .inl (fun _ => 0))), (q_sound_laws_partEnds, .inl (cI, 52, .inl (fun _ => 0))), (q_sound_laws_lawStarts, .inl (cI, 4, .inl (fun _ => 0))), (q_sound_laws_partCounts, .inl (cI, 4, .inl (fun _ => 0))), (q_sound_laws_vars, .inl (cI, 9, .inl (fun _ => 0))), (q_sound_laws_stack, .inl (cI, 16, .inl (fun _ => 0)))]) := by
  refine open_V (cc := cX1_init) (maxL := 1) (ret := none) (by decide) rfl (Nat.le_of_ble_eq_true rfl) ?_
  intro p e s m below meth c A ls E
  obtain ⟨C, hr, hlocks, hnm, hA, hP, hK, hD, hN, hl⟩ := E
  obtain ⟨hx, hb, hml, hown, hts⟩ := id C
  have hS : va_S A s.heap s.heap [] := va_S.rf
  have hl : lv_has ls 1 [(0, .ref q_sound_laws)] := hl
  have inX1 : ∀ w ∈ u_ws RX1 TX1 9, w ∈ wsX1_init := fun w h => (List.mem_cons_of_mem _ (List.mem_append_right _ h))
  have ACI : Cond.arrayClass .int ∈ wsX1_init := (List.mem_cons_of_mem _ (List.mem_append_left _ (List.mem_of_getElem? (i := 3) rfl)))
  have L15 : Cond.fieldLink RX1 15 "GuessFerry$Laws" "steps" "[I" ∈ wsX1_init := (List.mem_cons_of_mem _ (List.mem_append_left _ (List.mem_of_getElem? (i := 4) rfl)))
  have L19 : Cond.fieldLink RX1 19 "GuessFerry$Laws" "partEnds" "[I" ∈ wsX1_init := (List.mem_cons_of_mem _ (List.mem_append_left _ (List.mem_of_getElem? (i := 5) rfl)))
  have L22 : Cond.fieldLink RX1 22 "GuessFerry$Laws" "lawStarts" "[I" ∈ wsX1_init := (List.mem_cons_of_mem _ (List.mem_append_left _ (List.mem_of_getElem? (i := 6) rfl)))
  have L25 : Cond.fieldLink RX1 25 "GuessFerry$Laws" "partCounts" "[I" ∈ wsX1_init := (List.mem_cons_of_mem _ (List.mem_append_left _ (List.mem_of_getElem? (i := 7) rfl)))
  have L28 : Cond.fieldLink RX1 28 "GuessFerry$Laws" "vars" "[I" ∈ wsX1_init := (List.mem_cons_of_mem _ (List.mem_append_left _ (List.mem_of_getElem? (i := 8) rfl)))
  have L31 : Cond.fieldLink RX1 31 "GuessFerry$Laws" "stack" "[I" ∈ wsX1_init := (List.mem_cons_of_mem _ (List.mem_append_left _ (List.mem_of_getElem? (i := 9) rfl)))
  have OC : Cond.code Lib.objectInit ⟨#[0xb1]⟩ 1 none ∈ wsX1_init := by decide +kernel
  have OI : Cond.instanceMethod Lib.objectInit ∈ wsX1_init := by decide +kernel
  have OL9 : Cond.methodLink RX1 9 Lib.objectInit ∈ wsX1_init := by decide +kernel
  refine lv_aload_n hx hb dX1_init_0 rfl (lv_at hl 0 rfl) ?_
  refine W.objInit hx hb hown (hts _ OL9) (hts _ OI) (hts _ OC) rfl (by rw [hml]; exact hl.1) rfl dX1_init_1 (Nat.le_of_ble_eq_true rfl) (Nat.le_of_ble_eq_true rfl) ?_
  refine W.eq (g2 := F0 m 4 ls []) rfl ?_
  refine lv_aload_n hx hb dX1_init_4 rfl (lv_at hl 0 rfl) ?_
  refine lv_sipush (v := 404) hx hb dX1_init_5 (by decide) ?_
  refine q_newa (atype := .int) (ty := .int) (N' := 404) (404, .inl (fun _ => 0)) C ACI rfl (fun _ => rfl) hK hP hD hS hA 1 rfl (fun _ => rfl) (by decide) (by decide +kernel) (by decide +kernel) (Nat.le_of_ble_eq_true rfl) (Nat.le_of_ble_eq_true rfl) dX1_init_8 (fun q_sound_laws_steps H hP hD hS => ?_)
  refine q_putF (ty := .array .int) (w2 := [(q_sound_laws, .inr (1, [.ref q_sound_laws_steps, .null, .null, .null, .null, .null, u_sound_laws_6, u_sound_laws_7, u_sound_laws_8])), (q_sound_laws_steps, .inl (cI, 404, .inl (fun _ => 0)))]) tyX1 tyX1_ok nmX1 C inX1 hK hP hD hS 0 rfl rfl 0 (by decide) rfl rfl hnm L15 rfl (by decide +kernel) (rfl) rfl (Nat.le_of_ble_eq_true rfl) dX1_init_10 rfl (fun H locs hP hD hS => ?_)
  refine lv_aload_n hx hb dX1_init_13 rfl (lv_at hl 0 rfl) ?_
  refine lv_bipush (v := 52) hx hb dX1_init_14 (by decide) ?_
  refine q_newa (atype := .int) (ty := .int) (N' := 52) (52, .inl (fun _ => 0)) C ACI rfl (fun _ => rfl) hK hP hD hS hA 1 rfl (fun _ => rfl) (by decide) (by decide +kernel) (by decide +kernel) (Nat.le_of_ble_eq_true rfl) (Nat.le_of_ble_eq_true rfl) dX1_init_16 (fun q_sound_laws_partEnds H hP hD hS => ?_)
  refine q_putF (ty := .array .int) (w2 := [(q_sound_laws, .inr (1, [.ref q_sound_laws_steps, .ref q_sound_laws_partEnds, .null, .null, .null, .null, u_sound_laws_6, u_sound_laws_7, u_sound_laws_8])), (q_sound_laws_steps, .inl (cI, 404, .inl (fun _ => 0))), (q_sound_laws_partEnds, .inl (cI, 52, .inl (fun _ => 0)))]) tyX1 tyX1_ok nmX1 C inX1 hK hP hD hS 0 rfl rfl 1 (by decide) rfl rfl hnm L19 rfl (by decide +kernel) (rfl) rfl (Nat.le_of_ble_eq_true rfl) dX1_init_18 rfl (fun H locs hP hD hS => ?_)
  refine lv_aload_n hx hb dX1_init_21 rfl (lv_at hl 0 rfl) ?_
  refine lv_iconst (v := 4) hx hb dX1_init_22 (by decide) ?_
  refine q_newa (atype := .int) (ty := .int) (N' := 4) (4, .inl (fun _ => 0)) C ACI rfl (fun _ => rfl) hK hP hD hS hA 1 rfl (fun _ => rfl) (by decide) (by decide +kernel) (by decide +kernel) (Nat.le_of_ble_eq_true rfl) (Nat.le_of_ble_eq_true rfl) dX1_init_23 (fun q_sound_laws_lawStarts H hP hD hS => ?_)
  refine q_putF (ty := .array .int) (w2 := [(q_sound_laws, .inr (1, [.ref q_sound_laws_steps, .ref q_sound_laws_partEnds, .ref q_sound_laws_lawStarts, .null, .null, .null, u_sound_laws_6, u_sound_laws_7, u_sound_laws_8])), (q_sound_laws_steps, .inl (cI, 404, .inl (fun _ => 0))), (q_sound_laws_partEnds, .inl (cI, 52, .inl (fun _ => 0))), (q_sound_laws_lawStarts, .inl (cI, 4, .inl (fun _ => 0)))]) tyX1 tyX1_ok nmX1 C inX1 hK hP hD hS 0 rfl rfl 2 (by decide) rfl rfl hnm L22 rfl (by decide +kernel) (rfl) rfl (Nat.le_of_ble_eq_true rfl) dX1_init_25 rfl (fun H locs hP hD hS => ?_)
  refine lv_aload_n hx hb dX1_init_28 rfl (lv_at hl 0 rfl) ?_
  refine lv_iconst (v := 4) hx hb dX1_init_29 (by decide) ?_
  refine q_newa (atype := .int) (ty := .int) (N' := 4) (4, .inl (fun _ => 0)) C ACI rfl (fun _ => rfl) hK hP hD hS hA 1 rfl (fun _ => rfl) (by decide) (by decide +kernel) (by decide +kernel) (Nat.le_of_ble_eq_true rfl) (Nat.le_of_ble_eq_true rfl) dX1_init_30 (fun q_sound_laws_partCounts H hP hD hS => ?_)
  refine q_putF (ty := .array .int) (w2 := [(q_sound_laws, .inr (1, [.ref q_sound_laws_steps, .ref q_sound_laws_partEnds, .ref q_sound_laws_lawStarts, .ref q_sound_laws_partCounts, .null, .null, u_sound_laws_6, u_sound_laws_7, u_sound_laws_8])), (q_sound_laws_steps, .inl (cI, 404, .inl (fun _ => 0))), (q_sound_laws_partEnds, .inl (cI, 52, .inl (fun _ => 0))), (q_sound_laws_lawStarts, .inl (cI, 4, .inl (fun _ => 0))), (q_sound_laws_partCounts, .inl (cI, 4, .inl (fun _ => 0)))]) tyX1 tyX1_ok nmX1 C inX1 hK hP hD hS 0 rfl rfl 3 (by decide) rfl rfl hnm L25 rfl (by decide +kernel) (rfl) rfl (Nat.le_of_ble_eq_true rfl) dX1_init_32 rfl (fun H locs hP hD hS => ?_)
  refine lv_aload_n hx hb dX1_init_35 rfl (lv_at hl 0 rfl) ?_
  refine lv_bipush (v := 9) hx hb dX1_init_36 (by decide) ?_
  refine q_newa (atype := .int) (ty := .int) (N' := 9) (9, .inl (fun _ => 0)) C ACI rfl (fun _ => rfl) hK hP hD hS hA 1 rfl (fun _ => rfl) (by decide) (by decide +kernel) (by decide +kernel) (Nat.le_of_ble_eq_true rfl) (Nat.le_of_ble_eq_true rfl) dX1_init_38 (fun q_sound_laws_vars H hP hD hS => ?_)
  refine q_putF (ty := .array .int) (w2 := [(q_sound_laws, .inr (1, [.ref q_sound_laws_steps, .ref q_sound_laws_partEnds, .ref q_sound_laws_lawStarts, .ref q_sound_laws_partCounts, .ref q_sound_laws_vars, .null, u_sound_laws_6, u_sound_laws_7, u_sound_laws_8])), (q_sound_laws_steps, .inl (cI, 404, .inl (fun _ => 0))), (q_sound_laws_partEnds, .inl (cI, 52, .inl (fun _ => 0))), (q_sound_laws_lawStarts, .inl (cI, 4, .inl (fun _ => 0))), (q_sound_laws_partCounts, .inl (cI, 4, .inl (fun _ => 0))), (q_sound_laws_vars, .inl (cI, 9, .inl (fun _ => 0)))]) tyX1 tyX1_ok nmX1 C inX1 hK hP hD hS 0 rfl rfl 4 (by decide) rfl rfl hnm L28 rfl (by decide +kernel) (rfl) rfl (Nat.le_of_ble_eq_true rfl) dX1_init_40 rfl (fun H locs hP hD hS => ?_)
  refine lv_aload_n hx hb dX1_init_43 rfl (lv_at hl 0 rfl) ?_
  refine lv_bipush (v := 16) hx hb dX1_init_44 (by decide) ?_
  refine q_newa (atype := .int) (ty := .int) (N' := 16) (16, .inl (fun _ => 0)) C ACI rfl (fun _ => rfl) hK hP hD hS hA 1 rfl (fun _ => rfl) (by decide) (by decide +kernel) (by decide +kernel) (Nat.le_of_ble_eq_true rfl) (Nat.le_of_ble_eq_true rfl) dX1_init_46 (fun q_sound_laws_stack H hP hD hS => ?_)
  refine q_putF (ty := .array .int) (w2 := [(q_sound_laws, .inr (1, [.ref q_sound_laws_steps, .ref q_sound_laws_partEnds, .ref q_sound_laws_lawStarts, .ref q_sound_laws_partCounts, .ref q_sound_laws_vars, .ref q_sound_laws_stack, u_sound_laws_6, u_sound_laws_7, u_sound_laws_8])), (q_sound_laws_steps, .inl (cI, 404, .inl (fun _ => 0))), (q_sound_laws_partEnds, .inl (cI, 52, .inl (fun _ => 0))), (q_sound_laws_lawStarts, .inl (cI, 4, .inl (fun _ => 0))), (q_sound_laws_partCounts, .inl (cI, 4, .inl (fun _ => 0))), (q_sound_laws_vars, .inl (cI, 9, .inl (fun _ => 0))), (q_sound_laws_stack, .inl (cI, 16, .inl (fun _ => 0)))]) tyX1 tyX1_ok nmX1 C inX1 hK hP hD hS 0 rfl rfl 5 (by decide) rfl rfl hnm L31 rfl (by decide +kernel) (rfl) rfl (Nat.le_of_ble_eq_true rfl) dX1_init_48 rfl (fun H locs hP hD hS => ?_)
  exact q_vret C hr hlocks hK hP hD hS (Nat.le_of_ble_eq_true rfl) (Nat.le_of_ble_eq_true rfl) dX1_init_51 (⟨q_sound_laws_steps, q_sound_laws_partEnds, q_sound_laws_lawStarts, q_sound_laws_partCounts, q_sound_laws_vars, q_sound_laws_stack, rfl⟩)

set_option maxHeartbeats 4000000 in
set_option maxRecDepth 100000 in
theorem k_X5_init (l : Launch) (dC : Nat → ClassId) (dI : Nat → Nat → Nat) (cB cI cJ cZ cS : ClassId) (q_sound : Nat) : CV l yX5_init wsX5_init ({ frames := 4, cells := 12, slots := 550, locals := 82 }) (dC, dI) (tysA cB cI cJ cZ cS) [(q_sound, .inr (5, [.null, .null, .null, .null, .null, .null, .int 0, .int 0, .int 0, .int 0]))] [.ref q_sound] (fun w => ∃ q_sound_odds : Nat, ∃ q_sound_oddsSums : Nat, ∃ q_sound_likely : Nat, ∃ q_sound_heavy : Nat, ∃ q_sound_nerve : Nat, ∃ q_sound_laws : Nat, ∃ q_sound_laws_steps : Nat, ∃ q_sound_laws_partEnds : Nat, ∃ q_sound_laws_lawStarts : Nat, ∃ q_sound_laws_partCounts : Nat, ∃ q_sound_laws_vars : Nat, ∃ q_sound_laws_stack : Nat, w = [(q_sound, .inr (5, [.ref q_sound_odds, .ref q_sound_oddsSums, .ref q_sound_likely, .ref q_sound_heavy, .ref q_sound_nerve, .ref q_sound_laws, .int 0, .int 0, .int 1, .int 0])), (q_sound_odds, .inl (cI, 30, .inl (fun _ => 0))), (q_sound_oddsSums, .inl (cI, 5, .inl (fun _ => 0))), (q_sound_likely, .inl (cI, 5, .inl (fun _ => 0))), (q_sound_heavy, .inl (cI, 6, .inl (fun _ => 0))), (q_sound_nerve, .inl (cI, 6, .inl (fun _ => 0))), (q_sound_laws, .inr (1, [.ref q_sound_laws_steps, .ref q_sound_laws_partEnds, .ref q_sound_laws_lawStarts, .ref q_sound_laws_partCounts, .ref q_sound_laws_vars, .ref q_sound_laws_stack, .int 4, .int 3, .int 0])), (q_sound_laws_steps, .inl (cI, 404, .inl (upd (upd (upd (upd (fun _ => 0) 0 (-3)) 1 1) 2 1) 3 0))), (q_sound_laws_partEnds, .inl (cI, 52, .inl (upd (upd (upd (upd (fun _ => 0) 0 1) 13 2) 26 3) 39 4))), (q_sound_laws_lawStarts, .inl (cI, 4, .inl (upd (upd (upd (upd (fun _ => 0) 0 0) 1 1) 2 2) 3 3))), (q_sound_laws_partCounts, .inl (cI, 4, .inl (upd (upd (upd (upd (upd (upd (upd (upd (fun _ => 0) 0 0) 0 1) 1 0) 1 1) 2 0) 2 1) 3 0) 3 1))), (q_sound_laws_vars, .inl (cI, 9, .inl (fun _ => 0))), (q_sound_laws_stack, .inl (cI, 16, .inl (fun _ => 0)))]) := by
  refine open_V (cc := cX5_init) (maxL := 1) (ret := none) (by decide) rfl (Nat.le_of_ble_eq_true rfl) ?_
  intro p e s m below meth c A ls E
  obtain ⟨C, hr, hlocks, hnm, hA, hP, hK, hD, hN, hl⟩ := E
  obtain ⟨hx, hb, hml, hown, hts⟩ := id C
  have hS : va_S A s.heap s.heap [] := va_S.rf
  have hl : lv_has ls 1 [(0, .ref q_sound)] := hl
  have inX1 : ∀ w ∈ u_ws RX1 TX1 9, w ∈ wsX5_init := fun w h => (List.mem_cons_of_mem _ (List.mem_append_right _ h))
  have inX5 : ∀ w ∈ u_ws RX5 TX5 10, w ∈ wsX5_init := fun w h => (List.mem_cons_of_mem _ (List.mem_append_left _ (List.mem_append_right _ h)))
  have ACI : Cond.arrayClass .int ∈ wsX5_init := (List.mem_cons_of_mem _ (List.mem_append_left _ (List.mem_append_left _ (List.mem_append_right _ (List.mem_append_left _ (List.mem_cons_of_mem _ (List.mem_append_left _ (List.mem_of_getElem? (i := 3) rfl))))))))
  have CL27 : Cond.classLink RX5 27 RX1 ∈ wsX5_init := (List.mem_cons_of_mem _ (List.mem_append_left _ (List.mem_append_left _ (List.mem_append_left _ (List.mem_of_getElem? (i := 6) rfl)))))
  have INX1 : Cond.instantiable RX1 9 ∈ wsX5_init := (List.mem_cons_of_mem _ (List.mem_append_left _ (List.mem_append_left _ (List.mem_append_left _ (List.mem_of_getElem? (i := 7) rfl)))))
  have I_X1 : Cond.initialized RX1 ∈ wsX5_init := (List.mem_cons_of_mem _ (List.mem_append_left _ (List.mem_append_left _ (List.mem_append_right _ (List.mem_append_right _ (List.mem_cons_of_mem _ (List.mem_append_left _ (List.mem_append_left _ (List.mem_append_left _ (List.mem_of_getElem? (i := 6) rfl))))))))))
  have L15 : Cond.fieldLink RX5 15 "GuessFerry$Sound" "oddsSums" "[I" ∈ wsX5_init := (List.mem_cons_of_mem _ (List.mem_append_left _ (List.mem_append_left _ (List.mem_append_left _ (List.mem_of_getElem? (i := 2) rfl)))))
  have L18 : Cond.fieldLink RX5 18 "GuessFerry$Sound" "likely" "[I" ∈ wsX5_init := (List.mem_cons_of_mem _ (List.mem_append_left _ (List.mem_append_left _ (List.mem_append_left _ (List.mem_of_getElem? (i := 3) rfl)))))
  have L21 : Cond.fieldLink RX5 21 "GuessFerry$Sound" "heavy" "[I" ∈ wsX5_init := (List.mem_cons_of_mem _ (List.mem_append_left _ (List.mem_append_left _ (List.mem_append_left _ (List.mem_of_getElem? (i := 4) rfl)))))
  have L24 : Cond.fieldLink RX5 24 "GuessFerry$Sound" "nerve" "[I" ∈ wsX5_init := (List.mem_cons_of_mem _ (List.mem_append_left _ (List.mem_append_left _ (List.mem_append_left _ (List.mem_of_getElem? (i := 5) rfl)))))
  have L30 : Cond.fieldLink RX5 30 "GuessFerry$Sound" "laws" "LGuessFerry$Laws;" ∈ wsX5_init := (List.mem_cons_of_mem _ (List.mem_append_left _ (List.mem_append_left _ (List.mem_append_right _ (List.mem_append_right _ (List.mem_cons_of_mem _ (List.mem_append_left _ (List.mem_append_left _ (List.mem_append_left _ (List.mem_of_getElem? (i := 4) rfl))))))))))
  have L9 : Cond.fieldLink RX5 9 "GuessFerry$Sound" "odds" "[I" ∈ wsX5_init := (List.mem_cons_of_mem _ (List.mem_append_left _ (List.mem_append_left _ (List.mem_append_left _ (List.mem_of_getElem? (i := 1) rfl)))))
  have N_X1_init : Cond.instanceMethod yX1_init ∈ wsX5_init := (List.mem_cons_of_mem _ (List.mem_append_left _ (List.mem_append_left _ (List.mem_append_left _ (List.mem_of_getElem? (i := 8) rfl)))))
  have OC : Cond.code Lib.objectInit ⟨#[0xb1]⟩ 1 none ∈ wsX5_init := by decide +kernel
  have OI : Cond.instanceMethod Lib.objectInit ∈ wsX5_init := by decide +kernel
  have OL3 : Cond.methodLink RX5 3 Lib.objectInit ∈ wsX5_init := by decide +kernel
  refine lv_aload_n hx hb dX5_init_0 rfl (lv_at hl 0 rfl) ?_
  refine W.objInit hx hb hown (hts _ OL3) (hts _ OI) (hts _ OC) rfl (by rw [hml]; exact hl.1) rfl dX5_init_1 (Nat.le_of_ble_eq_true rfl) (Nat.le_of_ble_eq_true rfl) ?_
  refine W.eq (g2 := F0 m 4 ls []) rfl ?_
  refine lv_aload_n hx hb dX5_init_4 rfl (lv_at hl 0 rfl) ?_
  refine lv_bipush (v := 30) hx hb dX5_init_5 (by decide) ?_
  refine q_newa (atype := .int) (ty := .int) (N' := 30) (30, .inl (fun _ => 0)) C ACI rfl (fun _ => rfl) hK hP hD hS hA 1 rfl (fun _ => rfl) (by decide) (by decide +kernel) (by decide +kernel) (Nat.le_of_ble_eq_true rfl) (Nat.le_of_ble_eq_true rfl) dX5_init_7 (fun q_sound_odds H hP hD hS => ?_)
  refine q_putF (ty := .array .int) (w2 := [(q_sound, .inr (5, [.ref q_sound_odds, .null, .null, .null, .null, .null, .int 0, .int 0, .int 0, .int 0])), (q_sound_odds, .inl (cI, 30, .inl (fun _ => 0)))]) tyX5 tyX5_ok nmX5 C inX5 hK hP hD hS 0 rfl rfl 0 (by decide) rfl rfl hnm L9 rfl (by decide +kernel) (rfl) rfl (Nat.le_of_ble_eq_true rfl) dX5_init_9 rfl (fun H locs hP hD hS => ?_)
  refine lv_aload_n hx hb dX5_init_12 rfl (lv_at hl 0 rfl) ?_
  refine lv_iconst (v := 5) hx hb dX5_init_13 (by decide) ?_
  refine q_newa (atype := .int) (ty := .int) (N' := 5) (5, .inl (fun _ => 0)) C ACI rfl (fun _ => rfl) hK hP hD hS hA 1 rfl (fun _ => rfl) (by decide) (by decide +kernel) (by decide +kernel) (Nat.le_of_ble_eq_true rfl) (Nat.le_of_ble_eq_true rfl) dX5_init_14 (fun q_sound_oddsSums H hP hD hS => ?_)
  refine q_putF (ty := .array .int) (w2 := [(q_sound, .inr (5, [.ref q_sound_odds, .ref q_sound_oddsSums, .null, .null, .null, .null, .int 0, .int 0, .int 0, .int 0])), (q_sound_odds, .inl (cI, 30, .inl (fun _ => 0))), (q_sound_oddsSums, .inl (cI, 5, .inl (fun _ => 0)))]) tyX5 tyX5_ok nmX5 C inX5 hK hP hD hS 0 rfl rfl 1 (by decide) rfl rfl hnm L15 rfl (by decide +kernel) (rfl) rfl (Nat.le_of_ble_eq_true rfl) dX5_init_16 rfl (fun H locs hP hD hS => ?_)
  refine lv_aload_n hx hb dX5_init_19 rfl (lv_at hl 0 rfl) ?_
  refine lv_iconst (v := 5) hx hb dX5_init_20 (by decide) ?_
  refine q_newa (atype := .int) (ty := .int) (N' := 5) (5, .inl (fun _ => 0)) C ACI rfl (fun _ => rfl) hK hP hD hS hA 1 rfl (fun _ => rfl) (by decide) (by decide +kernel) (by decide +kernel) (Nat.le_of_ble_eq_true rfl) (Nat.le_of_ble_eq_true rfl) dX5_init_21 (fun q_sound_likely H hP hD hS => ?_)
  refine q_putF (ty := .array .int) (w2 := [(q_sound, .inr (5, [.ref q_sound_odds, .ref q_sound_oddsSums, .ref q_sound_likely, .null, .null, .null, .int 0, .int 0, .int 0, .int 0])), (q_sound_odds, .inl (cI, 30, .inl (fun _ => 0))), (q_sound_oddsSums, .inl (cI, 5, .inl (fun _ => 0))), (q_sound_likely, .inl (cI, 5, .inl (fun _ => 0)))]) tyX5 tyX5_ok nmX5 C inX5 hK hP hD hS 0 rfl rfl 2 (by decide) rfl rfl hnm L18 rfl (by decide +kernel) (rfl) rfl (Nat.le_of_ble_eq_true rfl) dX5_init_23 rfl (fun H locs hP hD hS => ?_)
  refine lv_aload_n hx hb dX5_init_26 rfl (lv_at hl 0 rfl) ?_
  refine lv_bipush (v := 6) hx hb dX5_init_27 (by decide) ?_
  refine q_newa (atype := .int) (ty := .int) (N' := 6) (6, .inl (fun _ => 0)) C ACI rfl (fun _ => rfl) hK hP hD hS hA 1 rfl (fun _ => rfl) (by decide) (by decide +kernel) (by decide +kernel) (Nat.le_of_ble_eq_true rfl) (Nat.le_of_ble_eq_true rfl) dX5_init_29 (fun q_sound_heavy H hP hD hS => ?_)
  refine q_putF (ty := .array .int) (w2 := [(q_sound, .inr (5, [.ref q_sound_odds, .ref q_sound_oddsSums, .ref q_sound_likely, .ref q_sound_heavy, .null, .null, .int 0, .int 0, .int 0, .int 0])), (q_sound_odds, .inl (cI, 30, .inl (fun _ => 0))), (q_sound_oddsSums, .inl (cI, 5, .inl (fun _ => 0))), (q_sound_likely, .inl (cI, 5, .inl (fun _ => 0))), (q_sound_heavy, .inl (cI, 6, .inl (fun _ => 0)))]) tyX5 tyX5_ok nmX5 C inX5 hK hP hD hS 0 rfl rfl 3 (by decide) rfl rfl hnm L21 rfl (by decide +kernel) (rfl) rfl (Nat.le_of_ble_eq_true rfl) dX5_init_31 rfl (fun H locs hP hD hS => ?_)
  refine lv_aload_n hx hb dX5_init_34 rfl (lv_at hl 0 rfl) ?_
  refine lv_bipush (v := 6) hx hb dX5_init_35 (by decide) ?_
  refine q_newa (atype := .int) (ty := .int) (N' := 6) (6, .inl (fun _ => 0)) C ACI rfl (fun _ => rfl) hK hP hD hS hA 1 rfl (fun _ => rfl) (by decide) (by decide +kernel) (by decide +kernel) (Nat.le_of_ble_eq_true rfl) (Nat.le_of_ble_eq_true rfl) dX5_init_37 (fun q_sound_nerve H hP hD hS => ?_)
  refine q_putF (ty := .array .int) (w2 := [(q_sound, .inr (5, [.ref q_sound_odds, .ref q_sound_oddsSums, .ref q_sound_likely, .ref q_sound_heavy, .ref q_sound_nerve, .null, .int 0, .int 0, .int 0, .int 0])), (q_sound_odds, .inl (cI, 30, .inl (fun _ => 0))), (q_sound_oddsSums, .inl (cI, 5, .inl (fun _ => 0))), (q_sound_likely, .inl (cI, 5, .inl (fun _ => 0))), (q_sound_heavy, .inl (cI, 6, .inl (fun _ => 0))), (q_sound_nerve, .inl (cI, 6, .inl (fun _ => 0)))]) tyX5 tyX5_ok nmX5 C inX5 hK hP hD hS 0 rfl rfl 4 (by decide) rfl rfl hnm L24 rfl (by decide +kernel) (rfl) rfl (Nat.le_of_ble_eq_true rfl) dX5_init_39 rfl (fun H locs hP hD hS => ?_)
  refine lv_aload_n hx hb dX5_init_42 rfl (lv_at hl 0 rfl) ?_
  refine va_new (ci := 1) (fs := [.null, .null, .null, .null, .null, .null, .int 0, .int 0, .int 0]) (C := RX1) (T := TX1) (N := 9) hx hb hts inX1 tyX1 tyX1_ok hown (hts _ CL27) (hts _ INX1) (hts _ I_X1) hK hP hD hS hA rfl (fun j hj => by rcases (show j = 0 ∨ j = 1 ∨ j = 2 ∨ j = 3 ∨ j = 4 ∨ j = 5 ∨ j = 6 ∨ j = 7 ∨ j = 8 by omega) with rfl | rfl | rfl | rfl | rfl | rfl | rfl | rfl | rfl <;> rfl) (Nat.le_of_ble_eq_true rfl) (Nat.le_of_ble_eq_true rfl) dX5_init_43 (fun q_sound_laws H hP hD hS => ?_)
  replace hP : va_P (dC, dI) vwCl [(q_sound, .inr (5, [.ref q_sound_odds, .ref q_sound_oddsSums, .ref q_sound_likely, .ref q_sound_heavy, .ref q_sound_nerve, .null, .int 0, .int 0, .int 0, .int 0])), (q_sound_odds, .inl (cI, 30, .inl (fun _ => 0))), (q_sound_oddsSums, .inl (cI, 5, .inl (fun _ => 0))), (q_sound_likely, .inl (cI, 5, .inl (fun _ => 0))), (q_sound_heavy, .inl (cI, 6, .inl (fun _ => 0))), (q_sound_nerve, .inl (cI, 6, .inl (fun _ => 0))), (q_sound_laws, .inr (1, [.null, .null, .null, .null, .null, .null, .int 0, .int 0, .int 0]))] H := hP
  replace hD : va_D A [(q_sound, .inr (5, [.ref q_sound_odds, .ref q_sound_oddsSums, .ref q_sound_likely, .ref q_sound_heavy, .ref q_sound_nerve, .null, .int 0, .int 0, .int 0, .int 0])), (q_sound_odds, .inl (cI, 30, .inl (fun _ => 0))), (q_sound_oddsSums, .inl (cI, 5, .inl (fun _ => 0))), (q_sound_likely, .inl (cI, 5, .inl (fun _ => 0))), (q_sound_heavy, .inl (cI, 6, .inl (fun _ => 0))), (q_sound_nerve, .inl (cI, 6, .inl (fun _ => 0))), (q_sound_laws, .inr (1, [.null, .null, .null, .null, .null, .null, .int 0, .int 0, .int 0]))] := hD
  refine lv_dup hx hb dX5_init_46 rfl ?_
  refine q_gov (wr := [(q_sound, .inr (5, [.ref q_sound_odds, .ref q_sound_oddsSums, .ref q_sound_likely, .ref q_sound_heavy, .ref q_sound_nerve, .null, .int 0, .int 0, .int 0, .int 0])), (q_sound_odds, .inl (cI, 30, .inl (fun _ => 0))), (q_sound_oddsSums, .inl (cI, 5, .inl (fun _ => 0))), (q_sound_likely, .inl (cI, 5, .inl (fun _ => 0))), (q_sound_heavy, .inl (cI, 6, .inl (fun _ => 0))), (q_sound_nerve, .inl (cI, 6, .inl (fun _ => 0)))]) (va_runIN (As := []) (rest := [.ref q_sound_laws, .ref q_sound]) C (k_X1_init l dC dI cB cI cJ cZ cS (q_sound_laws) (.int 0) (.int 0) (.int 0) _) ⟨va_cnB 0 hts gX5_init_X1_init_n29 rfl rfl rfl (hN _ nwM_X5_29 rfl) (hts _ I_X1) (by decide +kernel) ⟨Nat.le_of_ble_eq_true rfl, Nat.le_of_ble_eq_true rfl⟩, rfl, hts _ N_X1_init⟩ (q_pre hN hK hP hD [6] rfl (by decide)) rfl rfl hl.1 rfl (lv_room (Nat.le_of_ble_eq_true rfl)) dX5_init_47 ⟨Nat.le_of_ble_eq_true rfl, Nat.le_of_ble_eq_true rfl⟩) hP hD hS hA [6] [0, 1, 2, 3, 4, 5] rfl rfl (by decide +kernel) (by decide +kernel) (fun w1 H locs hw hP hD hS => ?_)
  refine Exists.elim hw fun q_sound_laws_steps zw0 => Exists.elim zw0 fun q_sound_laws_partEnds zw1 => Exists.elim zw1 fun q_sound_laws_lawStarts zw2 => Exists.elim zw2 fun q_sound_laws_partCounts zw3 => Exists.elim zw3 fun q_sound_laws_vars zw4 => Exists.elim zw4 fun q_sound_laws_stack zw5 => ?_
  clear hw zw0 zw1 zw2 zw3 zw4
  have hw := zw5
  clear zw5
  obtain rfl := hw
  replace hP : va_P (dC, dI) vwCl [(q_sound, .inr (5, [.ref q_sound_odds, .ref q_sound_oddsSums, .ref q_sound_likely, .ref q_sound_heavy, .ref q_sound_nerve, .null, .int 0, .int 0, .int 0, .int 0])), (q_sound_odds, .inl (cI, 30, .inl (fun _ => 0))), (q_sound_oddsSums, .inl (cI, 5, .inl (fun _ => 0))), (q_sound_likely, .inl (cI, 5, .inl (fun _ => 0))), (q_sound_heavy, .inl (cI, 6, .inl (fun _ => 0))), (q_sound_nerve, .inl (cI, 6, .inl (fun _ => 0))), (q_sound_laws, .inr (1, [.ref q_sound_laws_steps, .ref q_sound_laws_partEnds, .ref q_sound_laws_lawStarts, .ref q_sound_laws_partCounts, .ref q_sound_laws_vars, .ref q_sound_laws_stack, .int 0, .int 0, .int 0])), (q_sound_laws_steps, .inl (cI, 404, .inl (fun _ => 0))), (q_sound_laws_partEnds, .inl (cI, 52, .inl (fun _ => 0))), (q_sound_laws_lawStarts, .inl (cI, 4, .inl (fun _ => 0))), (q_sound_laws_partCounts, .inl (cI, 4, .inl (fun _ => 0))), (q_sound_laws_vars, .inl (cI, 9, .inl (fun _ => 0))), (q_sound_laws_stack, .inl (cI, 16, .inl (fun _ => 0)))] H := hP.sub [0, 1, 2, 3, 4, 5, 6, 7, 8, 9, 10, 11, 12] rfl
  replace hD : va_D A [(q_sound, .inr (5, [.ref q_sound_odds, .ref q_sound_oddsSums, .ref q_sound_likely, .ref q_sound_heavy, .ref q_sound_nerve, .null, .int 0, .int 0, .int 0, .int 0])), (q_sound_odds, .inl (cI, 30, .inl (fun _ => 0))), (q_sound_oddsSums, .inl (cI, 5, .inl (fun _ => 0))), (q_sound_likely, .inl (cI, 5, .inl (fun _ => 0))), (q_sound_heavy, .inl (cI, 6, .inl (fun _ => 0))), (q_sound_nerve, .inl (cI, 6, .inl (fun _ => 0))), (q_sound_laws, .inr (1, [.ref q_sound_laws_steps, .ref q_sound_laws_partEnds, .ref q_sound_laws_lawStarts, .ref q_sound_laws_partCounts, .ref q_sound_laws_vars, .ref q_sound_laws_stack, .int 0, .int 0, .int 0])), (q_sound_laws_steps, .inl (cI, 404, .inl (fun _ => 0))), (q_sound_laws_partEnds, .inl (cI, 52, .inl (fun _ => 0))), (q_sound_laws_lawStarts, .inl (cI, 4, .inl (fun _ => 0))), (q_sound_laws_partCounts, .inl (cI, 4, .inl (fun _ => 0))), (q_sound_laws_vars, .inl (cI, 9, .inl (fun _ => 0))), (q_sound_laws_stack, .inl (cI, 16, .inl (fun _ => 0)))] := hD.sub [0, 1, 2, 3, 4, 5, 6, 7, 8, 9, 10, 11, 12] (by decide +kernel) rfl
  refine q_putF (ty := .object "GuessFerry$Laws") (w2 := [(q_sound, .inr (5, [.ref q_sound_odds, .ref q_sound_oddsSums, .ref q_sound_likely, .ref q_sound_heavy, .ref q_sound_nerve, .ref q_sound_laws, .int 0, .int 0, .int 0, .int 0])), (q_sound_odds, .inl (cI, 30, .inl (fun _ => 0))), (q_sound_oddsSums, .inl (cI, 5, .inl (fun _ => 0))), (q_sound_likely, .inl (cI, 5, .inl (fun _ => 0))), (q_sound_heavy, .inl (cI, 6, .inl (fun _ => 0))), (q_sound_nerve, .inl (cI, 6, .inl (fun _ => 0))), (q_sound_laws, .inr (1, [.ref q_sound_laws_steps, .ref q_sound_laws_partEnds, .ref q_sound_laws_lawStarts, .ref q_sound_laws_partCounts, .ref q_sound_laws_vars, .ref q_sound_laws_stack, .int 0, .int 0, .int 0])), (q_sound_laws_steps, .inl (cI, 404, .inl (fun _ => 0))), (q_sound_laws_partEnds, .inl (cI, 52, .inl (fun _ => 0))), (q_sound_laws_lawStarts, .inl (cI, 4, .inl (fun _ => 0))), (q_sound_laws_partCounts, .inl (cI, 4, .inl (fun _ => 0))), (q_sound_laws_vars, .inl (cI, 9, .inl (fun _ => 0))), (q_sound_laws_stack, .inl (cI, 16, .inl (fun _ => 0)))]) tyX5 tyX5_ok nmX5 C inX5 hK hP hD hS 0 rfl rfl 5 (by decide) rfl rfl hnm L30 rfl (by decide +kernel) (rfl) rfl (Nat.le_of_ble_eq_true rfl) dX5_init_50 rfl (fun H locs hP hD hS => ?_)
  refine lv_aload_n hx hb dX5_init_53 rfl (lv_at hl 0 rfl) ?_
  refine q_gov (wr := [(q_sound_odds, .inl (cI, 30, .inl (fun _ => 0))), (q_sound_oddsSums, .inl (cI, 5, .inl (fun _ => 0))), (q_sound_likely, .inl (cI, 5, .inl (fun _ => 0))), (q_sound_heavy, .inl (cI, 6, .inl (fun _ => 0))), (q_sound_nerve, .inl (cI, 6, .inl (fun _ => 0))), (q_sound_laws_vars, .inl (cI, 9, .inl (fun _ => 0))), (q_sound_laws_stack, .inl (cI, 16, .inl (fun _ => 0)))]) (va_runV (As := []) (rest := []) C (k_X5_clear l dC dI cB cI cJ cZ cS (q_sound) (q_sound_laws) (q_sound_laws_steps) (q_sound_laws_partEnds) (q_sound_laws_lawStarts) (q_sound_laws_partCounts) (.ref q_sound_odds) (.ref q_sound_oddsSums) (.ref q_sound_likely) (.ref q_sound_heavy) (.ref q_sound_nerve) (0) (0) (0) (0) (.ref q_sound_laws_vars) (.ref q_sound_laws_stack) (0) (0) (.int 0) ((fun _ => 0)) ((fun _ => 0)) ((fun _ => 0)) ((fun _ => 0)) _) (cwV 0 hts gX5_init_X5_clear rfl rfl rfl (by decide +kernel) ⟨Nat.le_of_ble_eq_true rfl, Nat.le_of_ble_eq_true rfl⟩) (q_preV hK hP (ci := 5) (q0 := 0) rfl rfl rfl (q_pre hN hK hP hD [0, 6, 9, 10, 7, 8] rfl (by decide))) rfl rfl hl.1 rfl (lv_room (Nat.le_of_ble_eq_true rfl)) dX5_init_54 ⟨Nat.le_of_ble_eq_true rfl, Nat.le_of_ble_eq_true rfl⟩) hP hD hS hA [0, 6, 9, 10, 7, 8] [1, 2, 3, 4, 5, 11, 12] rfl rfl (by decide +kernel) (by decide +kernel) (fun w1 H locs hw hP hD hS => ?_)
  obtain rfl := hw
  replace hP : va_P (dC, dI) vwCl [(q_sound, .inr (5, [.ref q_sound_odds, .ref q_sound_oddsSums, .ref q_sound_likely, .ref q_sound_heavy, .ref q_sound_nerve, .ref q_sound_laws, .int 0, .int 0, .int 1, .int 0])), (q_sound_odds, .inl (cI, 30, .inl (fun _ => 0))), (q_sound_oddsSums, .inl (cI, 5, .inl (fun _ => 0))), (q_sound_likely, .inl (cI, 5, .inl (fun _ => 0))), (q_sound_heavy, .inl (cI, 6, .inl (fun _ => 0))), (q_sound_nerve, .inl (cI, 6, .inl (fun _ => 0))), (q_sound_laws, .inr (1, [.ref q_sound_laws_steps, .ref q_sound_laws_partEnds, .ref q_sound_laws_lawStarts, .ref q_sound_laws_partCounts, .ref q_sound_laws_vars, .ref q_sound_laws_stack, .int 4, .int 3, .int 0])), (q_sound_laws_steps, .inl (cI, 404, .inl (upd (upd (upd (upd (fun _ => 0) 0 (-3)) 1 1) 2 1) 3 0))), (q_sound_laws_partEnds, .inl (cI, 52, .inl (upd (upd (upd (upd (fun _ => 0) 0 1) 13 2) 26 3) 39 4))), (q_sound_laws_lawStarts, .inl (cI, 4, .inl (upd (upd (upd (upd (fun _ => 0) 0 0) 1 1) 2 2) 3 3))), (q_sound_laws_partCounts, .inl (cI, 4, .inl (upd (upd (upd (upd (upd (upd (upd (upd (fun _ => 0) 0 0) 0 1) 1 0) 1 1) 2 0) 2 1) 3 0) 3 1))), (q_sound_laws_vars, .inl (cI, 9, .inl (fun _ => 0))), (q_sound_laws_stack, .inl (cI, 16, .inl (fun _ => 0)))] H := hP.sub [7, 0, 1, 2, 3, 4, 8, 11, 12, 9, 10, 5, 6] rfl
  replace hD : va_D A [(q_sound, .inr (5, [.ref q_sound_odds, .ref q_sound_oddsSums, .ref q_sound_likely, .ref q_sound_heavy, .ref q_sound_nerve, .ref q_sound_laws, .int 0, .int 0, .int 1, .int 0])), (q_sound_odds, .inl (cI, 30, .inl (fun _ => 0))), (q_sound_oddsSums, .inl (cI, 5, .inl (fun _ => 0))), (q_sound_likely, .inl (cI, 5, .inl (fun _ => 0))), (q_sound_heavy, .inl (cI, 6, .inl (fun _ => 0))), (q_sound_nerve, .inl (cI, 6, .inl (fun _ => 0))), (q_sound_laws, .inr (1, [.ref q_sound_laws_steps, .ref q_sound_laws_partEnds, .ref q_sound_laws_lawStarts, .ref q_sound_laws_partCounts, .ref q_sound_laws_vars, .ref q_sound_laws_stack, .int 4, .int 3, .int 0])), (q_sound_laws_steps, .inl (cI, 404, .inl (upd (upd (upd (upd (fun _ => 0) 0 (-3)) 1 1) 2 1) 3 0))), (q_sound_laws_partEnds, .inl (cI, 52, .inl (upd (upd (upd (upd (fun _ => 0) 0 1) 13 2) 26 3) 39 4))), (q_sound_laws_lawStarts, .inl (cI, 4, .inl (upd (upd (upd (upd (fun _ => 0) 0 0) 1 1) 2 2) 3 3))), (q_sound_laws_partCounts, .inl (cI, 4, .inl (upd (upd (upd (upd (upd (upd (upd (upd (fun _ => 0) 0 0) 0 1) 1 0) 1 1) 2 0) 2 1) 3 0) 3 1))), (q_sound_laws_vars, .inl (cI, 9, .inl (fun _ => 0))), (q_sound_laws_stack, .inl (cI, 16, .inl (fun _ => 0)))] := hD.sub [7, 0, 1, 2, 3, 4, 8, 11, 12, 9, 10, 5, 6] (by decide +kernel) rfl
  exact q_vret C hr hlocks hK hP hD hS (Nat.le_of_ble_eq_true rfl) (Nat.le_of_ble_eq_true rfl) dX5_init_57 (⟨q_sound_odds, q_sound_oddsSums, q_sound_likely, q_sound_heavy, q_sound_nerve, q_sound_laws, q_sound_laws_steps, q_sound_laws_partEnds, q_sound_laws_lawStarts, q_sound_laws_partCounts, q_sound_laws_vars, q_sound_laws_stack, rfl⟩)
end
section
theorem dX0_init_0 : decode cX0_init 0 = .ok (.aload_n 0, 1) := dc1_42 (by decide +kernel)
theorem dX0_init_1 : decode cX0_init 1 = .ok (.invokespecial 3, 3) := dcw_183 (by decide +kernel)
theorem dX0_init_4 : decode cX0_init 4 = .ok (.aload_n 0, 1) := dc1_42 (by decide +kernel)
theorem dX0_init_5 : decode cX0_init 5 = .ok (.aload_n 1, 1) := dc1_43 (by decide +kernel)
theorem dX0_init_6 : decode cX0_init 6 = .ok (.putfield 9, 3) := dcw_181 (by decide +kernel)
theorem dX0_init_9 : decode cX0_init 9 = .ok (.aload_n 0, 1) := dc1_42 (by decide +kernel)
theorem dX0_init_10 : decode cX0_init 10 = .ok (.aload_n 1, 1) := dc1_43 (by decide +kernel)
theorem dX0_init_11 : decode cX0_init 11 = .ok (.getfield 15, 3) := dcw_180 (by decide +kernel)
theorem dX0_init_14 : decode cX0_init 14 = .ok (.getfield 21, 3) := dcw_180 (by decide +kernel)
theorem dX0_init_17 : decode cX0_init 17 = .ok (.putfield 27, 3) := dcw_181 (by decide +kernel)
theorem dX0_init_20 : decode cX0_init 20 = .ok (.return_, 1) := dc1_177 (by decide +kernel)
theorem dX2_init_0 : decode cX2_init 0 = .ok (.aload_n 0, 1) := dc1_42 (by decide +kernel)
theorem dX2_init_1 : decode cX2_init 1 = .ok (.invokespecial 3, 3) := dcw_183 (by decide +kernel)
theorem dX2_init_4 : decode cX2_init 4 = .ok (.aload_n 0, 1) := dc1_42 (by decide +kernel)
theorem dX2_init_5 : decode cX2_init 5 = .ok (.sipush 216, 3) := dcs_17 (n := 216) (by decide +kernel)
theorem dX2_init_8 : decode cX2_init 8 = .ok (.newarray .int, 2) := by decide +kernel
theorem dX2_init_10 : decode cX2_init 10 = .ok (.putfield 9, 3) := dcw_181 (by decide +kernel)
theorem dX2_init_13 : decode cX2_init 13 = .ok (.aload_n 0, 1) := dc1_42 (by decide +kernel)
theorem dX2_init_14 : decode cX2_init 14 = .ok (.bipush 36, 2) := dcb_16 (n := 36) (by decide +kernel)
theorem dX2_init_16 : decode cX2_init 16 = .ok (.newarray .int, 2) := by decide +kernel
theorem dX2_init_18 : decode cX2_init 18 = .ok (.putfield 15, 3) := dcw_181 (by decide +kernel)
theorem dX2_init_21 : decode cX2_init 21 = .ok (.aload_n 0, 1) := dc1_42 (by decide +kernel)
theorem dX2_init_22 : decode cX2_init 22 = .ok (.bipush 20, 2) := dcb_16 (n := 20) (by decide +kernel)
theorem dX2_init_24 : decode cX2_init 24 = .ok (.newarray .int, 2) := by decide +kernel
theorem dX2_init_26 : decode cX2_init 26 = .ok (.putfield 18, 3) := dcw_181 (by decide +kernel)
theorem dX2_init_29 : decode cX2_init 29 = .ok (.aload_n 0, 1) := dc1_42 (by decide +kernel)
theorem dX2_init_30 : decode cX2_init 30 = .ok (.bipush 20, 2) := dcb_16 (n := 20) (by decide +kernel)
theorem dX2_init_32 : decode cX2_init 32 = .ok (.newarray .int, 2) := by decide +kernel
theorem dX2_init_34 : decode cX2_init 34 = .ok (.putfield 21, 3) := dcw_181 (by decide +kernel)
theorem dX2_init_37 : decode cX2_init 37 = .ok (.aload_n 0, 1) := dc1_42 (by decide +kernel)
theorem dX2_init_38 : decode cX2_init 38 = .ok (.aload_n 1, 1) := dc1_43 (by decide +kernel)
theorem dX2_init_39 : decode cX2_init 39 = .ok (.putfield 24, 3) := dcw_181 (by decide +kernel)
theorem dX2_init_42 : decode cX2_init 42 = .ok (.aload_n 0, 1) := dc1_42 (by decide +kernel)
theorem dX2_init_43 : decode cX2_init 43 = .ok (.aload_n 2, 1) := dc1_44 (by decide +kernel)
theorem dX2_init_44 : decode cX2_init 44 = .ok (.putfield 28, 3) := dcw_181 (by decide +kernel)
theorem dX2_init_47 : decode cX2_init 47 = .ok (.return_, 1) := dc1_177 (by decide +kernel)
theorem dX6_init_0 : decode cX6_init 0 = .ok (.aload_n 0, 1) := dc1_42 (by decide +kernel)
theorem dX6_init_1 : decode cX6_init 1 = .ok (.invokespecial 3, 3) := dcw_183 (by decide +kernel)
theorem dX6_init_4 : decode cX6_init 4 = .ok (.aload_n 0, 1) := dc1_42 (by decide +kernel)
theorem dX6_init_5 : decode cX6_init 5 = .ok (.iconst 5, 1) := dc1_8 (by decide +kernel)
theorem dX6_init_6 : decode cX6_init 6 = .ok (.newarray .int, 2) := by decide +kernel
theorem dX6_init_8 : decode cX6_init 8 = .ok (.putfield 9, 3) := dcw_181 (by decide +kernel)
theorem dX6_init_11 : decode cX6_init 11 = .ok (.aload_n 0, 1) := dc1_42 (by decide +kernel)
theorem dX6_init_12 : decode cX6_init 12 = .ok (.iconst 5, 1) := dc1_8 (by decide +kernel)
theorem dX6_init_13 : decode cX6_init 13 = .ok (.newarray .int, 2) := by decide +kernel
theorem dX6_init_15 : decode cX6_init 15 = .ok (.putfield 15, 3) := dcw_181 (by decide +kernel)
theorem dX6_init_18 : decode cX6_init 18 = .ok (.aload_n 0, 1) := dc1_42 (by decide +kernel)
theorem dX6_init_19 : decode cX6_init 19 = .ok (.iconst 5, 1) := dc1_8 (by decide +kernel)
theorem dX6_init_20 : decode cX6_init 20 = .ok (.newarray .int, 2) := by decide +kernel
theorem dX6_init_22 : decode cX6_init 22 = .ok (.putfield 18, 3) := dcw_181 (by decide +kernel)
theorem dX6_init_25 : decode cX6_init 25 = .ok (.aload_n 0, 1) := dc1_42 (by decide +kernel)
theorem dX6_init_26 : decode cX6_init 26 = .ok (.bipush 6, 2) := dcb_16 (n := 6) (by decide +kernel)
theorem dX6_init_28 : decode cX6_init 28 = .ok (.newarray .int, 2) := by decide +kernel
theorem dX6_init_30 : decode cX6_init 30 = .ok (.putfield 21, 3) := dcw_181 (by decide +kernel)
theorem dX6_init_33 : decode cX6_init 33 = .ok (.aload_n 0, 1) := dc1_42 (by decide +kernel)
theorem dX6_init_34 : decode cX6_init 34 = .ok (.bipush 6, 2) := dcb_16 (n := 6) (by decide +kernel)
theorem dX6_init_36 : decode cX6_init 36 = .ok (.newarray .int, 2) := by decide +kernel
theorem dX6_init_38 : decode cX6_init 38 = .ok (.putfield 24, 3) := dcw_181 (by decide +kernel)
theorem dX6_init_41 : decode cX6_init 41 = .ok (.return_, 1) := dc1_177 (by decide +kernel)
theorem dX8_init_0 : decode cX8_init 0 = .ok (.aload_n 0, 1) := dc1_42 (by decide +kernel)
theorem dX8_init_1 : decode cX8_init 1 = .ok (.invokespecial 3, 3) := dcw_183 (by decide +kernel)
theorem dX8_init_4 : decode cX8_init 4 = .ok (.aload_n 0, 1) := dc1_42 (by decide +kernel)
theorem dX8_init_5 : decode cX8_init 5 = .ok (.bipush 20, 2) := dcb_16 (n := 20) (by decide +kernel)
theorem dX8_init_7 : decode cX8_init 7 = .ok (.newarray .int, 2) := by decide +kernel
theorem dX8_init_9 : decode cX8_init 9 = .ok (.putfield 9, 3) := dcw_181 (by decide +kernel)
theorem dX8_init_12 : decode cX8_init 12 = .ok (.aload_n 0, 1) := dc1_42 (by decide +kernel)
theorem dX8_init_13 : decode cX8_init 13 = .ok (.bipush 20, 2) := dcb_16 (n := 20) (by decide +kernel)
theorem dX8_init_15 : decode cX8_init 15 = .ok (.newarray .int, 2) := by decide +kernel
theorem dX8_init_17 : decode cX8_init 17 = .ok (.putfield 15, 3) := dcw_181 (by decide +kernel)
theorem dX8_init_20 : decode cX8_init 20 = .ok (.aload_n 0, 1) := dc1_42 (by decide +kernel)
theorem dX8_init_21 : decode cX8_init 21 = .ok (.bipush 30, 2) := dcb_16 (n := 30) (by decide +kernel)
theorem dX8_init_23 : decode cX8_init 23 = .ok (.newarray .int, 2) := by decide +kernel
theorem dX8_init_25 : decode cX8_init 25 = .ok (.putfield 18, 3) := dcw_181 (by decide +kernel)
theorem dX8_init_28 : decode cX8_init 28 = .ok (.aload_n 0, 1) := dc1_42 (by decide +kernel)
theorem dX8_init_29 : decode cX8_init 29 = .ok (.bipush 30, 2) := dcb_16 (n := 30) (by decide +kernel)
theorem dX8_init_31 : decode cX8_init 31 = .ok (.newarray .int, 2) := by decide +kernel
theorem dX8_init_33 : decode cX8_init 33 = .ok (.putfield 21, 3) := dcw_181 (by decide +kernel)
theorem dX8_init_36 : decode cX8_init 36 = .ok (.aload_n 0, 1) := dc1_42 (by decide +kernel)
theorem dX8_init_37 : decode cX8_init 37 = .ok (.iconst 4, 1) := dc1_7 (by decide +kernel)
theorem dX8_init_38 : decode cX8_init 38 = .ok (.newarray .int, 2) := by decide +kernel
theorem dX8_init_40 : decode cX8_init 40 = .ok (.putfield 24, 3) := dcw_181 (by decide +kernel)
theorem dX8_init_43 : decode cX8_init 43 = .ok (.aload_n 0, 1) := dc1_42 (by decide +kernel)
theorem dX8_init_44 : decode cX8_init 44 = .ok (.aload_n 1, 1) := dc1_43 (by decide +kernel)
theorem dX8_init_45 : decode cX8_init 45 = .ok (.putfield 27, 3) := dcw_181 (by decide +kernel)
theorem dX8_init_48 : decode cX8_init 48 = .ok (.aload_n 0, 1) := dc1_42 (by decide +kernel)
theorem dX8_init_49 : decode cX8_init 49 = .ok (.aload_n 2, 1) := dc1_44 (by decide +kernel)
theorem dX8_init_50 : decode cX8_init 50 = .ok (.putfield 31, 3) := dcw_181 (by decide +kernel)
theorem dX8_init_53 : decode cX8_init 53 = .ok (.return_, 1) := dc1_177 (by decide +kernel)
set_option maxHeartbeats 4000000 in
set_option maxRecDepth 100000 in
theorem k_X6_init (l : Launch) (dC : Nat → ClassId) (dI : Nat → Nat → Nat) (cB cI cJ cZ cS : ClassId) (q_now : Nat) (u_now_5 : Value) (u_now_6 : Value) : CV l yX6_init wsX6_init ({ frames := 1, cells := 5, slots := 27, locals := 24 }) (dC, dI) (tysA cB cI cJ cZ cS) [(q_now, .inr (6, [.null, .null, .null, .null, .null, u_now_5, u_now_6]))] [.ref q_now] (fun w => ∃ q_now_found : Nat, ∃ q_now_buoys : Nat, ∃ q_now_shifted : Nat, ∃ q_now_status : Nat, ∃ q_now_goes : Nat, w = [(q_now, .inr (6, [.ref q_now_found, .ref q_now_buoys, .ref q_now_shifted, .ref q_now_status, .ref q_now_goes, u_now_5, u_now_6])), (q_now_found, .inl (cI, 5, .inl (fun _ => 0))), (q_now_buoys, .inl (cI, 5, .inl (fun _ => 0))), (q_now_shifted, .inl (cI, 5, .inl (fun _ => 0))), (q_now_status, .inl (cI, 6, .inl (fun _ => 0))), (q_now_goes, .inl (cI, 6, .inl (fun _ => 0)))]) := by
  refine open_V (cc := cX6_init) (maxL := 1) (ret := none) (by decide) rfl (Nat.le_of_ble_eq_true rfl) ?_
  intro p e s m below meth c A ls E
  obtain ⟨C, hr, hlocks, hnm, hA, hP, hK, hD, hN, hl⟩ := E
  obtain ⟨hx, hb, hml, hown, hts⟩ := id C
  have hS : va_S A s.heap s.heap [] := va_S.rf
  have hl : lv_has ls 1 [(0, .ref q_now)] := hl
  have inX6 : ∀ w ∈ u_ws RX6 TX6 7, w ∈ wsX6_init := fun w h => (List.mem_cons_of_mem _ (List.mem_append_right _ h))
  have ACI : Cond.arrayClass .int ∈ wsX6_init := (List.mem_cons_of_mem _ (List.mem_append_left _ (List.mem_of_getElem? (i := 3) rfl)))
  have L15 : Cond.fieldLink RX6 15 "GuessFerry$Standing" "buoys" "[I" ∈ wsX6_init := (List.mem_cons_of_mem _ (List.mem_append_left _ (List.mem_of_getElem? (i := 5) rfl)))
  have L18 : Cond.fieldLink RX6 18 "GuessFerry$Standing" "shifted" "[I" ∈ wsX6_init := (List.mem_cons_of_mem _ (List.mem_append_left _ (List.mem_of_getElem? (i := 6) rfl)))
  have L21 : Cond.fieldLink RX6 21 "GuessFerry$Standing" "status" "[I" ∈ wsX6_init := (List.mem_cons_of_mem _ (List.mem_append_left _ (List.mem_of_getElem? (i := 7) rfl)))
  have L24 : Cond.fieldLink RX6 24 "GuessFerry$Standing" "goes" "[I" ∈ wsX6_init := (List.mem_cons_of_mem _ (List.mem_append_left _ (List.mem_of_getElem? (i := 8) rfl)))
  have L9 : Cond.fieldLink RX6 9 "GuessFerry$Standing" "found" "[I" ∈ wsX6_init := (List.mem_cons_of_mem _ (List.mem_append_left _ (List.mem_of_getElem? (i := 4) rfl)))
  have OC : Cond.code Lib.objectInit ⟨#[0xb1]⟩ 1 none ∈ wsX6_init := by decide +kernel
  have OI : Cond.instanceMethod Lib.objectInit ∈ wsX6_init := by decide +kernel
  have OL3 : Cond.methodLink RX6 3 Lib.objectInit ∈ wsX6_init := by decide +kernel
  refine lv_aload_n hx hb dX6_init_0 rfl (lv_at hl 0 rfl) ?_
  refine W.objInit hx hb hown (hts _ OL3) (hts _ OI) (hts _ OC) rfl (by rw [hml]; exact hl.1) rfl dX6_init_1 (Nat.le_of_ble_eq_true rfl) (Nat.le_of_ble_eq_true rfl) ?_
  refine W.eq (g2 := F0 m 4 ls []) rfl ?_
  refine lv_aload_n hx hb dX6_init_4 rfl (lv_at hl 0 rfl) ?_
  refine lv_iconst (v := 5) hx hb dX6_init_5 (by decide) ?_
  refine q_newa (atype := .int) (ty := .int) (N' := 5) (5, .inl (fun _ => 0)) C ACI rfl (fun _ => rfl) hK hP hD hS hA 1 rfl (fun _ => rfl) (by decide) (by decide +kernel) (by decide +kernel) (Nat.le_of_ble_eq_true rfl) (Nat.le_of_ble_eq_true rfl) dX6_init_6 (fun q_now_found H hP hD hS => ?_)
  refine q_putF (ty := .array .int) (w2 := [(q_now, .inr (6, [.ref q_now_found, .null, .null, .null, .null, u_now_5, u_now_6])), (q_now_found, .inl (cI, 5, .inl (fun _ => 0)))]) tyX6 tyX6_ok nmX6 C inX6 hK hP hD hS 0 rfl rfl 0 (by decide) rfl rfl hnm L9 rfl (by decide +kernel) (rfl) rfl (Nat.le_of_ble_eq_true rfl) dX6_init_8 rfl (fun H locs hP hD hS => ?_)
  refine lv_aload_n hx hb dX6_init_11 rfl (lv_at hl 0 rfl) ?_
  refine lv_iconst (v := 5) hx hb dX6_init_12 (by decide) ?_
  refine q_newa (atype := .int) (ty := .int) (N' := 5) (5, .inl (fun _ => 0)) C ACI rfl (fun _ => rfl) hK hP hD hS hA 1 rfl (fun _ => rfl) (by decide) (by decide +kernel) (by decide +kernel) (Nat.le_of_ble_eq_true rfl) (Nat.le_of_ble_eq_true rfl) dX6_init_13 (fun q_now_buoys H hP hD hS => ?_)
  refine q_putF (ty := .array .int) (w2 := [(q_now, .inr (6, [.ref q_now_found, .ref q_now_buoys, .null, .null, .null, u_now_5, u_now_6])), (q_now_found, .inl (cI, 5, .inl (fun _ => 0))), (q_now_buoys, .inl (cI, 5, .inl (fun _ => 0)))]) tyX6 tyX6_ok nmX6 C inX6 hK hP hD hS 0 rfl rfl 1 (by decide) rfl rfl hnm L15 rfl (by decide +kernel) (rfl) rfl (Nat.le_of_ble_eq_true rfl) dX6_init_15 rfl (fun H locs hP hD hS => ?_)
  refine lv_aload_n hx hb dX6_init_18 rfl (lv_at hl 0 rfl) ?_
  refine lv_iconst (v := 5) hx hb dX6_init_19 (by decide) ?_
  refine q_newa (atype := .int) (ty := .int) (N' := 5) (5, .inl (fun _ => 0)) C ACI rfl (fun _ => rfl) hK hP hD hS hA 1 rfl (fun _ => rfl) (by decide) (by decide +kernel) (by decide +kernel) (Nat.le_of_ble_eq_true rfl) (Nat.le_of_ble_eq_true rfl) dX6_init_20 (fun q_now_shifted H hP hD hS => ?_)
  refine q_putF (ty := .array .int) (w2 := [(q_now, .inr (6, [.ref q_now_found, .ref q_now_buoys, .ref q_now_shifted, .null, .null, u_now_5, u_now_6])), (q_now_found, .inl (cI, 5, .inl (fun _ => 0))), (q_now_buoys, .inl (cI, 5, .inl (fun _ => 0))), (q_now_shifted, .inl (cI, 5, .inl (fun _ => 0)))]) tyX6 tyX6_ok nmX6 C inX6 hK hP hD hS 0 rfl rfl 2 (by decide) rfl rfl hnm L18 rfl (by decide +kernel) (rfl) rfl (Nat.le_of_ble_eq_true rfl) dX6_init_22 rfl (fun H locs hP hD hS => ?_)
  refine lv_aload_n hx hb dX6_init_25 rfl (lv_at hl 0 rfl) ?_
  refine lv_bipush (v := 6) hx hb dX6_init_26 (by decide) ?_
  refine q_newa (atype := .int) (ty := .int) (N' := 6) (6, .inl (fun _ => 0)) C ACI rfl (fun _ => rfl) hK hP hD hS hA 1 rfl (fun _ => rfl) (by decide) (by decide +kernel) (by decide +kernel) (Nat.le_of_ble_eq_true rfl) (Nat.le_of_ble_eq_true rfl) dX6_init_28 (fun q_now_status H hP hD hS => ?_)
  refine q_putF (ty := .array .int) (w2 := [(q_now, .inr (6, [.ref q_now_found, .ref q_now_buoys, .ref q_now_shifted, .ref q_now_status, .null, u_now_5, u_now_6])), (q_now_found, .inl (cI, 5, .inl (fun _ => 0))), (q_now_buoys, .inl (cI, 5, .inl (fun _ => 0))), (q_now_shifted, .inl (cI, 5, .inl (fun _ => 0))), (q_now_status, .inl (cI, 6, .inl (fun _ => 0)))]) tyX6 tyX6_ok nmX6 C inX6 hK hP hD hS 0 rfl rfl 3 (by decide) rfl rfl hnm L21 rfl (by decide +kernel) (rfl) rfl (Nat.le_of_ble_eq_true rfl) dX6_init_30 rfl (fun H locs hP hD hS => ?_)
  refine lv_aload_n hx hb dX6_init_33 rfl (lv_at hl 0 rfl) ?_
  refine lv_bipush (v := 6) hx hb dX6_init_34 (by decide) ?_
  refine q_newa (atype := .int) (ty := .int) (N' := 6) (6, .inl (fun _ => 0)) C ACI rfl (fun _ => rfl) hK hP hD hS hA 1 rfl (fun _ => rfl) (by decide) (by decide +kernel) (by decide +kernel) (Nat.le_of_ble_eq_true rfl) (Nat.le_of_ble_eq_true rfl) dX6_init_36 (fun q_now_goes H hP hD hS => ?_)
  refine q_putF (ty := .array .int) (w2 := [(q_now, .inr (6, [.ref q_now_found, .ref q_now_buoys, .ref q_now_shifted, .ref q_now_status, .ref q_now_goes, u_now_5, u_now_6])), (q_now_found, .inl (cI, 5, .inl (fun _ => 0))), (q_now_buoys, .inl (cI, 5, .inl (fun _ => 0))), (q_now_shifted, .inl (cI, 5, .inl (fun _ => 0))), (q_now_status, .inl (cI, 6, .inl (fun _ => 0))), (q_now_goes, .inl (cI, 6, .inl (fun _ => 0)))]) tyX6 tyX6_ok nmX6 C inX6 hK hP hD hS 0 rfl rfl 4 (by decide) rfl rfl hnm L24 rfl (by decide +kernel) (rfl) rfl (Nat.le_of_ble_eq_true rfl) dX6_init_38 rfl (fun H locs hP hD hS => ?_)
  exact q_vret C hr hlocks hK hP hD hS (Nat.le_of_ble_eq_true rfl) (Nat.le_of_ble_eq_true rfl) dX6_init_41 (⟨q_now_found, q_now_buoys, q_now_shifted, q_now_status, q_now_goes, rfl⟩)

set_option maxHeartbeats 4000000 in
set_option maxRecDepth 100000 in
theorem k_X0_init (l : Launch) (dC : Nat → ClassId) (dI : Nat → Nat → Nat) (cB cI cJ cZ cS : ClassId) (q_sound : Nat) (q_sound_laws : Nat) (q_sound_vars : Nat) (q_crossing : Nat) (u_sound_0 : Value) (u_sound_1 : Value) (u_sound_2 : Value) (u_sound_3 : Value) (u_sound_4 : Value) (u_sound_6 : Value) (u_sound_7 : Value) (u_sound_8 : Value) (u_sound_9 : Value) (u_sound_laws_0 : Value) (u_sound_laws_1 : Value) (u_sound_laws_2 : Value) (u_sound_laws_3 : Value) (u_sound_laws_5 : Value) (u_sound_laws_6 : Value) (u_sound_laws_7 : Value) (u_sound_laws_8 : Value) : CV l yX0_init wsX0_init ({ frames := 1, cells := 0, slots := 0, locals := 24 }) (dC, dI) (tysA cB cI cJ cZ cS) [(q_crossing, .inr (0, [.null, .null])), (q_sound, .inr (5, [u_sound_0, u_sound_1, u_sound_2, u_sound_3, u_sound_4, .ref q_sound_laws, u_sound_6, u_sound_7, u_sound_8, u_sound_9])), (q_sound_laws, .inr (1, [u_sound_laws_0, u_sound_laws_1, u_sound_laws_2, u_sound_laws_3, .ref q_sound_vars, u_sound_laws_5, u_sound_laws_6, u_sound_laws_7, u_sound_laws_8]))] [.ref q_crossing, .ref q_sound] (fun w => w = [(q_crossing, .inr (0, [.ref q_sound, .ref q_sound_vars])), (q_sound, .inr (5, [u_sound_0, u_sound_1, u_sound_2, u_sound_3, u_sound_4, .ref q_sound_laws, u_sound_6, u_sound_7, u_sound_8, u_sound_9])), (q_sound_laws, .inr (1, [u_sound_laws_0, u_sound_laws_1, u_sound_laws_2, u_sound_laws_3, .ref q_sound_vars, u_sound_laws_5, u_sound_laws_6, u_sound_laws_7, u_sound_laws_8]))]) := by
  refine open_V (cc := cX0_init) (maxL := 2) (ret := none) (by decide) rfl (Nat.le_of_ble_eq_true rfl) ?_
  intro p e s m below meth c A ls E
  obtain ⟨C, hr, hlocks, hnm, hA, hP, hK, hD, hN, hl⟩ := E
  obtain ⟨hx, hb, hml, hown, hts⟩ := id C
  have hS : va_S A s.heap s.heap [] := va_S.rf
  have hl : lv_has ls 2 [(0, .ref q_crossing), (1, .ref q_sound)] := hl
  have inX0 : ∀ w ∈ u_ws RX0 TX0 2, w ∈ wsX0_init := fun w h => (List.mem_cons_of_mem _ (List.mem_append_left _ (List.mem_append_left _ (List.mem_append_right _ h))))
  have inX1 : ∀ w ∈ u_ws RX1 TX1 9, w ∈ wsX0_init := fun w h => (List.mem_cons_of_mem _ (List.mem_append_right _ h))
  have inX5 : ∀ w ∈ u_ws RX5 TX5 10, w ∈ wsX0_init := fun w h => (List.mem_cons_of_mem _ (List.mem_append_left _ (List.mem_append_right _ h)))
  have L27 : Cond.fieldLink RX0 27 "GuessFerry$Crossing" "vars" "[I" ∈ wsX0_init := (List.mem_cons_of_mem _ (List.mem_append_left _ (List.mem_append_left _ (List.mem_append_left _ (List.mem_of_getElem? (i := 4) rfl)))))
  have L9 : Cond.fieldLink RX0 9 "GuessFerry$Crossing" "sound" "LGuessFerry$Sound;" ∈ wsX0_init := (List.mem_cons_of_mem _ (List.mem_append_left _ (List.mem_append_left _ (List.mem_append_left _ (List.mem_of_getElem? (i := 3) rfl)))))
  have OC : Cond.code Lib.objectInit ⟨#[0xb1]⟩ 1 none ∈ wsX0_init := by decide +kernel
  have OI : Cond.instanceMethod Lib.objectInit ∈ wsX0_init := by decide +kernel
  have OL3 : Cond.methodLink RX0 3 Lib.objectInit ∈ wsX0_init := by decide +kernel
  refine lv_aload_n hx hb dX0_init_0 rfl (lv_at hl 0 rfl) ?_
  refine W.objInit hx hb hown (hts _ OL3) (hts _ OI) (hts _ OC) rfl (by rw [hml]; exact hl.1) rfl dX0_init_1 (Nat.le_of_ble_eq_true rfl) (Nat.le_of_ble_eq_true rfl) ?_
  refine W.eq (g2 := F0 m 4 ls []) rfl ?_
  refine lv_aload_n hx hb dX0_init_4 rfl (lv_at hl 0 rfl) ?_
  refine lv_aload_n hx hb dX0_init_5 rfl (lv_at hl 1 rfl) ?_
  refine q_putF (ty := .object "GuessFerry$Sound") (w2 := [(q_crossing, .inr (0, [.ref q_sound, .null])), (q_sound, .inr (5, [u_sound_0, u_sound_1, u_sound_2, u_sound_3, u_sound_4, .ref q_sound_laws, u_sound_6, u_sound_7, u_sound_8, u_sound_9])), (q_sound_laws, .inr (1, [u_sound_laws_0, u_sound_laws_1, u_sound_laws_2, u_sound_laws_3, .ref q_sound_vars, u_sound_laws_5, u_sound_laws_6, u_sound_laws_7, u_sound_laws_8]))]) tyX0 tyX0_ok nmX0 C inX0 hK hP hD hS 0 rfl rfl 0 (by decide) rfl rfl hnm L9 rfl (by decide +kernel) (rfl) rfl (Nat.le_of_ble_eq_true rfl) dX0_init_6 rfl (fun H locs hP hD hS => ?_)
  refine lv_aload_n hx hb dX0_init_9 rfl (lv_at hl 0 rfl) ?_
  refine lv_aload_n hx hb dX0_init_10 rfl (lv_at hl 1 rfl) ?_
  refine q_getN (v := .ref q_sound_laws) C hN inX5 hK hP 1 rfl rfl 5 (by decide) rfl nwF_X0_15 rfl dX0_init_11 ?_
  refine q_getN (v := .ref q_sound_vars) C hN inX1 hK hP 2 rfl rfl 4 (by decide) rfl nwF_X0_21 rfl dX0_init_14 ?_
  refine q_putF (ty := .array .int) (w2 := [(q_crossing, .inr (0, [.ref q_sound, .ref q_sound_vars])), (q_sound, .inr (5, [u_sound_0, u_sound_1, u_sound_2, u_sound_3, u_sound_4, .ref q_sound_laws, u_sound_6, u_sound_7, u_sound_8, u_sound_9])), (q_sound_laws, .inr (1, [u_sound_laws_0, u_sound_laws_1, u_sound_laws_2, u_sound_laws_3, .ref q_sound_vars, u_sound_laws_5, u_sound_laws_6, u_sound_laws_7, u_sound_laws_8]))]) tyX0 tyX0_ok nmX0 C inX0 hK hP hD hS 0 rfl rfl 1 (by decide) rfl rfl hnm L27 rfl (by decide +kernel) (rfl) rfl (Nat.le_of_ble_eq_true rfl) dX0_init_17 rfl (fun H locs hP hD hS => ?_)
  exact q_vret C hr hlocks hK hP hD hS (Nat.le_of_ble_eq_true rfl) (Nat.le_of_ble_eq_true rfl) dX0_init_20 (rfl)

set_option maxHeartbeats 4000000 in
set_option maxRecDepth 100000 in
theorem k_X2_init (l : Launch) (dC : Nat → ClassId) (dI : Nat → Nat → Nat) (cB cI cJ cZ cS : ClassId) (q_sound : Nat) (q_crossing : Nat) (q_outlook : Nat) : CV l yX2_init wsX2_init ({ frames := 1, cells := 4, slots := 292, locals := 24 }) (dC, dI) (tysA cB cI cJ cZ cS) [(q_outlook, .inr (2, [.null, .null, .null, .null, .null, .null]))] [.ref q_outlook, .ref q_sound, .ref q_crossing] (fun w => ∃ q_near : Nat, ∃ q_far : Nat, ∃ q_topGuesses : Nat, ∃ q_topOdds : Nat, w = [(q_outlook, .inr (2, [.ref q_sound, .ref q_crossing, .ref q_near, .ref q_far, .ref q_topGuesses, .ref q_topOdds])), (q_near, .inl (cI, 216, .inl (fun _ => 0))), (q_far, .inl (cI, 36, .inl (fun _ => 0))), (q_topGuesses, .inl (cI, 20, .inl (fun _ => 0))), (q_topOdds, .inl (cI, 20, .inl (fun _ => 0)))]) := by
  refine open_V (cc := cX2_init) (maxL := 3) (ret := none) (by decide) rfl (Nat.le_of_ble_eq_true rfl) ?_
  intro p e s m below meth c A ls E
  obtain ⟨C, hr, hlocks, hnm, hA, hP, hK, hD, hN, hl⟩ := E
  obtain ⟨hx, hb, hml, hown, hts⟩ := id C
  have hS : va_S A s.heap s.heap [] := va_S.rf
  have hl : lv_has ls 3 [(0, .ref q_outlook), (1, .ref q_sound), (2, .ref q_crossing)] := hl
  have inX2 : ∀ w ∈ u_ws RX2 TX2 6, w ∈ wsX2_init := fun w h => (List.mem_cons_of_mem _ (List.mem_append_right _ h))
  have ACI : Cond.arrayClass .int ∈ wsX2_init := (List.mem_cons_of_mem _ (List.mem_append_left _ (List.mem_of_getElem? (i := 3) rfl)))
  have L15 : Cond.fieldLink RX2 15 "GuessFerry$Outlook" "far" "[I" ∈ wsX2_init := (List.mem_cons_of_mem _ (List.mem_append_left _ (List.mem_of_getElem? (i := 5) rfl)))
  have L18 : Cond.fieldLink RX2 18 "GuessFerry$Outlook" "topGuesses" "[I" ∈ wsX2_init := (List.mem_cons_of_mem _ (List.mem_append_left _ (List.mem_of_getElem? (i := 6) rfl)))
  have L21 : Cond.fieldLink RX2 21 "GuessFerry$Outlook" "topOdds" "[I" ∈ wsX2_init := (List.mem_cons_of_mem _ (List.mem_append_left _ (List.mem_of_getElem? (i := 7) rfl)))
  have L24 : Cond.fieldLink RX2 24 "GuessFerry$Outlook" "sound" "LGuessFerry$Sound;" ∈ wsX2_init := (List.mem_cons_of_mem _ (List.mem_append_left _ (List.mem_of_getElem? (i := 8) rfl)))
  have L28 : Cond.fieldLink RX2 28 "GuessFerry$Outlook" "crossing" "LGuessFerry$Crossing;" ∈ wsX2_init := (List.mem_cons_of_mem _ (List.mem_append_left _ (List.mem_of_getElem? (i := 9) rfl)))
  have L9 : Cond.fieldLink RX2 9 "GuessFerry$Outlook" "near" "[I" ∈ wsX2_init := (List.mem_cons_of_mem _ (List.mem_append_left _ (List.mem_of_getElem? (i := 4) rfl)))
  have OC : Cond.code Lib.objectInit ⟨#[0xb1]⟩ 1 none ∈ wsX2_init := by decide +kernel
  have OI : Cond.instanceMethod Lib.objectInit ∈ wsX2_init := by decide +kernel
  have OL3 : Cond.methodLink RX2 3 Lib.objectInit ∈ wsX2_init := by decide +kernel
  refine lv_aload_n hx hb dX2_init_0 rfl (lv_at hl 0 rfl) ?_
  refine W.objInit hx hb hown (hts _ OL3) (hts _ OI) (hts _ OC) rfl (by rw [hml]; exact hl.1) rfl dX2_init_1 (Nat.le_of_ble_eq_true rfl) (Nat.le_of_ble_eq_true rfl) ?_
  refine W.eq (g2 := F0 m 4 ls []) rfl ?_
  refine lv_aload_n hx hb dX2_init_4 rfl (lv_at hl 0 rfl) ?_
  refine lv_sipush (v := 216) hx hb dX2_init_5 (by decide) ?_
  refine q_newa (atype := .int) (ty := .int) (N' := 216) (216, .inl (fun _ => 0)) C ACI rfl (fun _ => rfl) hK hP hD hS hA 1 rfl (fun _ => rfl) (by decide) (by decide +kernel) (by decide +kernel) (Nat.le_of_ble_eq_true rfl) (Nat.le_of_ble_eq_true rfl) dX2_init_8 (fun q_near H hP hD hS => ?_)
  refine q_putF (ty := .array .int) (w2 := [(q_outlook, .inr (2, [.null, .null, .ref q_near, .null, .null, .null])), (q_near, .inl (cI, 216, .inl (fun _ => 0)))]) tyX2 tyX2_ok nmX2 C inX2 hK hP hD hS 0 rfl rfl 2 (by decide) rfl rfl hnm L9 rfl (by decide +kernel) (rfl) rfl (Nat.le_of_ble_eq_true rfl) dX2_init_10 rfl (fun H locs hP hD hS => ?_)
  refine lv_aload_n hx hb dX2_init_13 rfl (lv_at hl 0 rfl) ?_
  refine lv_bipush (v := 36) hx hb dX2_init_14 (by decide) ?_
  refine q_newa (atype := .int) (ty := .int) (N' := 36) (36, .inl (fun _ => 0)) C ACI rfl (fun _ => rfl) hK hP hD hS hA 1 rfl (fun _ => rfl) (by decide) (by decide +kernel) (by decide +kernel) (Nat.le_of_ble_eq_true rfl) (Nat.le_of_ble_eq_true rfl) dX2_init_16 (fun q_far H hP hD hS => ?_)
  refine q_putF (ty := .array .int) (w2 := [(q_outlook, .inr (2, [.null, .null, .ref q_near, .ref q_far, .null, .null])), (q_near, .inl (cI, 216, .inl (fun _ => 0))), (q_far, .inl (cI, 36, .inl (fun _ => 0)))]) tyX2 tyX2_ok nmX2 C inX2 hK hP hD hS 0 rfl rfl 3 (by decide) rfl rfl hnm L15 rfl (by decide +kernel) (rfl) rfl (Nat.le_of_ble_eq_true rfl) dX2_init_18 rfl (fun H locs hP hD hS => ?_)
  refine lv_aload_n hx hb dX2_init_21 rfl (lv_at hl 0 rfl) ?_
  refine lv_bipush (v := 20) hx hb dX2_init_22 (by decide) ?_
  refine q_newa (atype := .int) (ty := .int) (N' := 20) (20, .inl (fun _ => 0)) C ACI rfl (fun _ => rfl) hK hP hD hS hA 1 rfl (fun _ => rfl) (by decide) (by decide +kernel) (by decide +kernel) (Nat.le_of_ble_eq_true rfl) (Nat.le_of_ble_eq_true rfl) dX2_init_24 (fun q_topGuesses H hP hD hS => ?_)
  refine q_putF (ty := .array .int) (w2 := [(q_outlook, .inr (2, [.null, .null, .ref q_near, .ref q_far, .ref q_topGuesses, .null])), (q_near, .inl (cI, 216, .inl (fun _ => 0))), (q_far, .inl (cI, 36, .inl (fun _ => 0))), (q_topGuesses, .inl (cI, 20, .inl (fun _ => 0)))]) tyX2 tyX2_ok nmX2 C inX2 hK hP hD hS 0 rfl rfl 4 (by decide) rfl rfl hnm L18 rfl (by decide +kernel) (rfl) rfl (Nat.le_of_ble_eq_true rfl) dX2_init_26 rfl (fun H locs hP hD hS => ?_)
  refine lv_aload_n hx hb dX2_init_29 rfl (lv_at hl 0 rfl) ?_
  refine lv_bipush (v := 20) hx hb dX2_init_30 (by decide) ?_
  refine q_newa (atype := .int) (ty := .int) (N' := 20) (20, .inl (fun _ => 0)) C ACI rfl (fun _ => rfl) hK hP hD hS hA 1 rfl (fun _ => rfl) (by decide) (by decide +kernel) (by decide +kernel) (Nat.le_of_ble_eq_true rfl) (Nat.le_of_ble_eq_true rfl) dX2_init_32 (fun q_topOdds H hP hD hS => ?_)
  refine q_putF (ty := .array .int) (w2 := [(q_outlook, .inr (2, [.null, .null, .ref q_near, .ref q_far, .ref q_topGuesses, .ref q_topOdds])), (q_near, .inl (cI, 216, .inl (fun _ => 0))), (q_far, .inl (cI, 36, .inl (fun _ => 0))), (q_topGuesses, .inl (cI, 20, .inl (fun _ => 0))), (q_topOdds, .inl (cI, 20, .inl (fun _ => 0)))]) tyX2 tyX2_ok nmX2 C inX2 hK hP hD hS 0 rfl rfl 5 (by decide) rfl rfl hnm L21 rfl (by decide +kernel) (rfl) rfl (Nat.le_of_ble_eq_true rfl) dX2_init_34 rfl (fun H locs hP hD hS => ?_)
  refine lv_aload_n hx hb dX2_init_37 rfl (lv_at hl 0 rfl) ?_
  refine lv_aload_n hx hb dX2_init_38 rfl (lv_at hl 1 rfl) ?_
  refine q_putF (ty := .object "GuessFerry$Sound") (w2 := [(q_outlook, .inr (2, [.ref q_sound, .null, .ref q_near, .ref q_far, .ref q_topGuesses, .ref q_topOdds])), (q_near, .inl (cI, 216, .inl (fun _ => 0))), (q_far, .inl (cI, 36, .inl (fun _ => 0))), (q_topGuesses, .inl (cI, 20, .inl (fun _ => 0))), (q_topOdds, .inl (cI, 20, .inl (fun _ => 0)))]) tyX2 tyX2_ok nmX2 C inX2 hK hP hD hS 0 rfl rfl 0 (by decide) rfl rfl hnm L24 rfl (by decide +kernel) (rfl) rfl (Nat.le_of_ble_eq_true rfl) dX2_init_39 rfl (fun H locs hP hD hS => ?_)
  refine lv_aload_n hx hb dX2_init_42 rfl (lv_at hl 0 rfl) ?_
  refine lv_aload_n hx hb dX2_init_43 rfl (lv_at hl 2 rfl) ?_
  refine q_putF (ty := .object "GuessFerry$Crossing") (w2 := [(q_outlook, .inr (2, [.ref q_sound, .ref q_crossing, .ref q_near, .ref q_far, .ref q_topGuesses, .ref q_topOdds])), (q_near, .inl (cI, 216, .inl (fun _ => 0))), (q_far, .inl (cI, 36, .inl (fun _ => 0))), (q_topGuesses, .inl (cI, 20, .inl (fun _ => 0))), (q_topOdds, .inl (cI, 20, .inl (fun _ => 0)))]) tyX2 tyX2_ok nmX2 C inX2 hK hP hD hS 0 rfl rfl 1 (by decide) rfl rfl hnm L28 rfl (by decide +kernel) (rfl) rfl (Nat.le_of_ble_eq_true rfl) dX2_init_44 rfl (fun H locs hP hD hS => ?_)
  exact q_vret C hr hlocks hK hP hD hS (Nat.le_of_ble_eq_true rfl) (Nat.le_of_ble_eq_true rfl) dX2_init_47 (⟨q_near, q_far, q_topGuesses, q_topOdds, rfl⟩)

set_option maxHeartbeats 4000000 in
set_option maxRecDepth 100000 in
theorem k_X8_init (l : Launch) (dC : Nat → ClassId) (dI : Nat → Nat → Nat) (cB cI cJ cZ cS : ClassId) (q_sound : Nat) (q_crossing : Nat) (q_tellers : Nat) (u_tellers_7 : Value) : CV l yX8_init wsX8_init ({ frames := 1, cells := 5, slots := 104, locals := 24 }) (dC, dI) (tysA cB cI cJ cZ cS) [(q_tellers, .inr (8, [.null, .null, .null, .null, .null, .null, .null, u_tellers_7]))] [.ref q_tellers, .ref q_sound, .ref q_crossing] (fun w => ∃ q_toldWaves : Nat, ∃ q_toldThings : Nat, ∃ q_t_odds : Nat, ∃ q_belied : Nat, ∃ q_byLies : Nat, w = [(q_tellers, .inr (8, [.ref q_sound, .ref q_crossing, .ref q_toldWaves, .ref q_toldThings, .ref q_t_odds, .ref q_belied, .ref q_byLies, u_tellers_7])), (q_toldWaves, .inl (cI, 20, .inl (fun _ => 0))), (q_toldThings, .inl (cI, 20, .inl (fun _ => 0))), (q_t_odds, .inl (cI, 30, .inl (fun _ => 0))), (q_belied, .inl (cI, 30, .inl (fun _ => 0))), (q_byLies, .inl (cI, 4, .inl (fun _ => 0)))]) := by
  refine open_V (cc := cX8_init) (maxL := 3) (ret := none) (by decide) rfl (Nat.le_of_ble_eq_true rfl) ?_
  intro p e s m below meth c A ls E
  obtain ⟨C, hr, hlocks, hnm, hA, hP, hK, hD, hN, hl⟩ := E
  obtain ⟨hx, hb, hml, hown, hts⟩ := id C
  have hS : va_S A s.heap s.heap [] := va_S.rf
  have hl : lv_has ls 3 [(0, .ref q_tellers), (1, .ref q_sound), (2, .ref q_crossing)] := hl
  have inX8 : ∀ w ∈ u_ws RX8 TX8 8, w ∈ wsX8_init := fun w h => (List.mem_cons_of_mem _ (List.mem_append_right _ h))
  have ACI : Cond.arrayClass .int ∈ wsX8_init := (List.mem_cons_of_mem _ (List.mem_append_left _ (List.mem_of_getElem? (i := 3) rfl)))
  have L15 : Cond.fieldLink RX8 15 "GuessFerry$Tellers" "toldThings" "[I" ∈ wsX8_init := (List.mem_cons_of_mem _ (List.mem_append_left _ (List.mem_of_getElem? (i := 5) rfl)))
  have L18 : Cond.fieldLink RX8 18 "GuessFerry$Tellers" "odds" "[I" ∈ wsX8_init := (List.mem_cons_of_mem _ (List.mem_append_left _ (List.mem_of_getElem? (i := 6) rfl)))
  have L21 : Cond.fieldLink RX8 21 "GuessFerry$Tellers" "belied" "[I" ∈ wsX8_init := (List.mem_cons_of_mem _ (List.mem_append_left _ (List.mem_of_getElem? (i := 7) rfl)))
  have L24 : Cond.fieldLink RX8 24 "GuessFerry$Tellers" "byLies" "[I" ∈ wsX8_init := (List.mem_cons_of_mem _ (List.mem_append_left _ (List.mem_of_getElem? (i := 8) rfl)))
  have L27 : Cond.fieldLink RX8 27 "GuessFerry$Tellers" "sound" "LGuessFerry$Sound;" ∈ wsX8_init := (List.mem_cons_of_mem _ (List.mem_append_left _ (List.mem_of_getElem? (i := 9) rfl)))
  have L31 : Cond.fieldLink RX8 31 "GuessFerry$Tellers" "crossing" "LGuessFerry$Crossing;" ∈ wsX8_init := (List.mem_cons_of_mem _ (List.mem_append_left _ (List.mem_of_getElem? (i := 10) rfl)))
  have L9 : Cond.fieldLink RX8 9 "GuessFerry$Tellers" "toldWaves" "[I" ∈ wsX8_init := (List.mem_cons_of_mem _ (List.mem_append_left _ (List.mem_of_getElem? (i := 4) rfl)))
  have OC : Cond.code Lib.objectInit ⟨#[0xb1]⟩ 1 none ∈ wsX8_init := by decide +kernel
  have OI : Cond.instanceMethod Lib.objectInit ∈ wsX8_init := by decide +kernel
  have OL3 : Cond.methodLink RX8 3 Lib.objectInit ∈ wsX8_init := by decide +kernel
  refine lv_aload_n hx hb dX8_init_0 rfl (lv_at hl 0 rfl) ?_
  refine W.objInit hx hb hown (hts _ OL3) (hts _ OI) (hts _ OC) rfl (by rw [hml]; exact hl.1) rfl dX8_init_1 (Nat.le_of_ble_eq_true rfl) (Nat.le_of_ble_eq_true rfl) ?_
  refine W.eq (g2 := F0 m 4 ls []) rfl ?_
  refine lv_aload_n hx hb dX8_init_4 rfl (lv_at hl 0 rfl) ?_
  refine lv_bipush (v := 20) hx hb dX8_init_5 (by decide) ?_
  refine q_newa (atype := .int) (ty := .int) (N' := 20) (20, .inl (fun _ => 0)) C ACI rfl (fun _ => rfl) hK hP hD hS hA 1 rfl (fun _ => rfl) (by decide) (by decide +kernel) (by decide +kernel) (Nat.le_of_ble_eq_true rfl) (Nat.le_of_ble_eq_true rfl) dX8_init_7 (fun q_toldWaves H hP hD hS => ?_)
  refine q_putF (ty := .array .int) (w2 := [(q_tellers, .inr (8, [.null, .null, .ref q_toldWaves, .null, .null, .null, .null, u_tellers_7])), (q_toldWaves, .inl (cI, 20, .inl (fun _ => 0)))]) tyX8 tyX8_ok nmX8 C inX8 hK hP hD hS 0 rfl rfl 2 (by decide) rfl rfl hnm L9 rfl (by decide +kernel) (rfl) rfl (Nat.le_of_ble_eq_true rfl) dX8_init_9 rfl (fun H locs hP hD hS => ?_)
  refine lv_aload_n hx hb dX8_init_12 rfl (lv_at hl 0 rfl) ?_
  refine lv_bipush (v := 20) hx hb dX8_init_13 (by decide) ?_
  refine q_newa (atype := .int) (ty := .int) (N' := 20) (20, .inl (fun _ => 0)) C ACI rfl (fun _ => rfl) hK hP hD hS hA 1 rfl (fun _ => rfl) (by decide) (by decide +kernel) (by decide +kernel) (Nat.le_of_ble_eq_true rfl) (Nat.le_of_ble_eq_true rfl) dX8_init_15 (fun q_toldThings H hP hD hS => ?_)
  refine q_putF (ty := .array .int) (w2 := [(q_tellers, .inr (8, [.null, .null, .ref q_toldWaves, .ref q_toldThings, .null, .null, .null, u_tellers_7])), (q_toldWaves, .inl (cI, 20, .inl (fun _ => 0))), (q_toldThings, .inl (cI, 20, .inl (fun _ => 0)))]) tyX8 tyX8_ok nmX8 C inX8 hK hP hD hS 0 rfl rfl 3 (by decide) rfl rfl hnm L15 rfl (by decide +kernel) (rfl) rfl (Nat.le_of_ble_eq_true rfl) dX8_init_17 rfl (fun H locs hP hD hS => ?_)
  refine lv_aload_n hx hb dX8_init_20 rfl (lv_at hl 0 rfl) ?_
  refine lv_bipush (v := 30) hx hb dX8_init_21 (by decide) ?_
  refine q_newa (atype := .int) (ty := .int) (N' := 30) (30, .inl (fun _ => 0)) C ACI rfl (fun _ => rfl) hK hP hD hS hA 1 rfl (fun _ => rfl) (by decide) (by decide +kernel) (by decide +kernel) (Nat.le_of_ble_eq_true rfl) (Nat.le_of_ble_eq_true rfl) dX8_init_23 (fun q_t_odds H hP hD hS => ?_)
  refine q_putF (ty := .array .int) (w2 := [(q_tellers, .inr (8, [.null, .null, .ref q_toldWaves, .ref q_toldThings, .ref q_t_odds, .null, .null, u_tellers_7])), (q_toldWaves, .inl (cI, 20, .inl (fun _ => 0))), (q_toldThings, .inl (cI, 20, .inl (fun _ => 0))), (q_t_odds, .inl (cI, 30, .inl (fun _ => 0)))]) tyX8 tyX8_ok nmX8 C inX8 hK hP hD hS 0 rfl rfl 4 (by decide) rfl rfl hnm L18 rfl (by decide +kernel) (rfl) rfl (Nat.le_of_ble_eq_true rfl) dX8_init_25 rfl (fun H locs hP hD hS => ?_)
  refine lv_aload_n hx hb dX8_init_28 rfl (lv_at hl 0 rfl) ?_
  refine lv_bipush (v := 30) hx hb dX8_init_29 (by decide) ?_
  refine q_newa (atype := .int) (ty := .int) (N' := 30) (30, .inl (fun _ => 0)) C ACI rfl (fun _ => rfl) hK hP hD hS hA 1 rfl (fun _ => rfl) (by decide) (by decide +kernel) (by decide +kernel) (Nat.le_of_ble_eq_true rfl) (Nat.le_of_ble_eq_true rfl) dX8_init_31 (fun q_belied H hP hD hS => ?_)
  refine q_putF (ty := .array .int) (w2 := [(q_tellers, .inr (8, [.null, .null, .ref q_toldWaves, .ref q_toldThings, .ref q_t_odds, .ref q_belied, .null, u_tellers_7])), (q_toldWaves, .inl (cI, 20, .inl (fun _ => 0))), (q_toldThings, .inl (cI, 20, .inl (fun _ => 0))), (q_t_odds, .inl (cI, 30, .inl (fun _ => 0))), (q_belied, .inl (cI, 30, .inl (fun _ => 0)))]) tyX8 tyX8_ok nmX8 C inX8 hK hP hD hS 0 rfl rfl 5 (by decide) rfl rfl hnm L21 rfl (by decide +kernel) (rfl) rfl (Nat.le_of_ble_eq_true rfl) dX8_init_33 rfl (fun H locs hP hD hS => ?_)
  refine lv_aload_n hx hb dX8_init_36 rfl (lv_at hl 0 rfl) ?_
  refine lv_iconst (v := 4) hx hb dX8_init_37 (by decide) ?_
  refine q_newa (atype := .int) (ty := .int) (N' := 4) (4, .inl (fun _ => 0)) C ACI rfl (fun _ => rfl) hK hP hD hS hA 1 rfl (fun _ => rfl) (by decide) (by decide +kernel) (by decide +kernel) (Nat.le_of_ble_eq_true rfl) (Nat.le_of_ble_eq_true rfl) dX8_init_38 (fun q_byLies H hP hD hS => ?_)
  refine q_putF (ty := .array .int) (w2 := [(q_tellers, .inr (8, [.null, .null, .ref q_toldWaves, .ref q_toldThings, .ref q_t_odds, .ref q_belied, .ref q_byLies, u_tellers_7])), (q_toldWaves, .inl (cI, 20, .inl (fun _ => 0))), (q_toldThings, .inl (cI, 20, .inl (fun _ => 0))), (q_t_odds, .inl (cI, 30, .inl (fun _ => 0))), (q_belied, .inl (cI, 30, .inl (fun _ => 0))), (q_byLies, .inl (cI, 4, .inl (fun _ => 0)))]) tyX8 tyX8_ok nmX8 C inX8 hK hP hD hS 0 rfl rfl 6 (by decide) rfl rfl hnm L24 rfl (by decide +kernel) (rfl) rfl (Nat.le_of_ble_eq_true rfl) dX8_init_40 rfl (fun H locs hP hD hS => ?_)
  refine lv_aload_n hx hb dX8_init_43 rfl (lv_at hl 0 rfl) ?_
  refine lv_aload_n hx hb dX8_init_44 rfl (lv_at hl 1 rfl) ?_
  refine q_putF (ty := .object "GuessFerry$Sound") (w2 := [(q_tellers, .inr (8, [.ref q_sound, .null, .ref q_toldWaves, .ref q_toldThings, .ref q_t_odds, .ref q_belied, .ref q_byLies, u_tellers_7])), (q_toldWaves, .inl (cI, 20, .inl (fun _ => 0))), (q_toldThings, .inl (cI, 20, .inl (fun _ => 0))), (q_t_odds, .inl (cI, 30, .inl (fun _ => 0))), (q_belied, .inl (cI, 30, .inl (fun _ => 0))), (q_byLies, .inl (cI, 4, .inl (fun _ => 0)))]) tyX8 tyX8_ok nmX8 C inX8 hK hP hD hS 0 rfl rfl 0 (by decide) rfl rfl hnm L27 rfl (by decide +kernel) (rfl) rfl (Nat.le_of_ble_eq_true rfl) dX8_init_45 rfl (fun H locs hP hD hS => ?_)
  refine lv_aload_n hx hb dX8_init_48 rfl (lv_at hl 0 rfl) ?_
  refine lv_aload_n hx hb dX8_init_49 rfl (lv_at hl 2 rfl) ?_
  refine q_putF (ty := .object "GuessFerry$Crossing") (w2 := [(q_tellers, .inr (8, [.ref q_sound, .ref q_crossing, .ref q_toldWaves, .ref q_toldThings, .ref q_t_odds, .ref q_belied, .ref q_byLies, u_tellers_7])), (q_toldWaves, .inl (cI, 20, .inl (fun _ => 0))), (q_toldThings, .inl (cI, 20, .inl (fun _ => 0))), (q_t_odds, .inl (cI, 30, .inl (fun _ => 0))), (q_belied, .inl (cI, 30, .inl (fun _ => 0))), (q_byLies, .inl (cI, 4, .inl (fun _ => 0)))]) tyX8 tyX8_ok nmX8 C inX8 hK hP hD hS 0 rfl rfl 1 (by decide) rfl rfl hnm L31 rfl (by decide +kernel) (rfl) rfl (Nat.le_of_ble_eq_true rfl) dX8_init_50 rfl (fun H locs hP hD hS => ?_)
  exact q_vret C hr hlocks hK hP hD hS (Nat.le_of_ble_eq_true rfl) (Nat.le_of_ble_eq_true rfl) dX8_init_53 (⟨q_toldWaves, q_toldThings, q_t_odds, q_belied, q_byLies, rfl⟩)
end
section
/-! ===== the constant of Tokens, the String class, the array class of Standing ===== -/
noncomputable def txW : String := "wave party needs fares dares shifts seed if then else at odds heavy nerve left year which buoys goes "
noncomputable def bytL : List Int32 := [119, 97, 118, 101, 32, 112, 97, 114, 116, 121, 32, 110, 101, 101, 100, 115, 32, 102, 97, 114, 101, 115, 32, 100, 97, 114, 101, 115, 32, 115, 104, 105, 102, 116, 115, 32, 115, 101, 101, 100, 32, 105, 102, 32, 116, 104, 101, 110, 32, 101, 108, 115, 101, 32, 97, 116, 32, 111, 100, 100, 115, 32, 104, 101, 97, 118, 121, 32, 110, 101, 114, 118, 101, 32, 108, 101, 102, 116, 32, 121, 101, 97, 114, 32, 119, 104, 105, 99, 104, 32, 98, 117, 111, 121, 115, 32, 103, 111, 101, 115, 32]
noncomputable def xW (ak av : Nat) (A : Nat → Prop) (U : State) (H : Heap) : Prop :=
  va_AO "GuessFerry$Standing" U ∧ vk_R "GuessFerry$Tokens" 27 txW ak U ∧ va_O "java/lang/String" ak A U H ∧ va_OF "java/lang/String" "coder" "B" (.int 0) ak A U H ∧ va_OF "java/lang/String" "value" "[B" (.ref av) ak A U H ∧ va_T .byte av 101 (fun j => .int (bytL.getD j 0)) A U H ∧ va_Z "java/lang/String" "COMPACT_STRINGS" "Z" (.int 1) A U H ∧ va_Zq "jdk/internal/util/Preconditions" "SIOOBE_FORMATTER" "Ljava/util/function/BiFunction;" A U H
theorem xW_same {ak av : Nat} {A : Nat → Prop} {u U : State} {H : Heap} (h : u.vm = U.vm) (x : xW ak av A u H) : xW ak av A U H := by
  obtain ⟨x1, x2, x3, x4, x5, x6, x7, x8⟩ := x
  have hvm : u.vm.Alike U.vm := by rw [h]; exact Vm.Alike.refl U.vm
  exact ⟨x1.moved hvm, vk_R.same h.symm x2, x3.moved hvm, x4.moved hvm, x5.moved hvm, x6.moved hvm, x7.moved hvm, x8.moved hvm⟩
theorem xW_warm {ak av : Nat} {A : Nat → Prop} {s U : State} {H : Heap} (hW : s.WarmedH U.vm) (x : xW ak av A s H) : xW ak av A U H := by
  obtain ⟨x1, x2, x3, x4, x5, x6, x7, x8⟩ := x
  have hvm := hW.alike
  exact ⟨x1.moved hvm, vk_R.warm hW x2, x3.moved hvm, x4.moved hvm, x5.moved hvm, x6.moved hvm, x7.moved hvm, x8.moved hvm⟩
theorem xW_kept {ak av : Nat} {A : Nat → Prop} {U : State} {H H1 : Heap} (hq : ∀ a : Nat, a < H.size → ¬ A a → H1[a]? = H[a]?) (x : xW ak av A U H) : xW ak av A U H1 := by
  obtain ⟨x1, x2, x3, x4, x5, x6, x7, x8⟩ := x
  exact ⟨x1, x2, x3.kept hq, x4.kept hq, x5.kept hq, x6.kept hq, x7.kept hq, x8.kept hq⟩
theorem xW_narrow {ak av : Nat} {A B : Nat → Prop} {U : State} {H : Heap} (hAB : ∀ q, B q → A q) (x : xW ak av A U H) : xW ak av B U H := by
  obtain ⟨x1, x2, x3, x4, x5, x6, x7, x8⟩ := x
  exact ⟨x1, x2, x3.narrow hAB, x4.narrow hAB, x5.narrow hAB, x6.narrow hAB, x7.narrow hAB, x8.narrow hAB⟩
noncomputable abbrev pre_X (ak av : Nat) (D : va_G) (tys : List (ClassId × FieldType)) (sz : Nat) (w : va_W) : State → Prop := fun U => pre_W D tys sz w U ∧ xW ak av (va_A w sz) U U.heap
theorem blind_X {ak av : Nat} {D : va_G} {tys : List (ClassId × FieldType)} {sz : Nat} {w : va_W} {as : List Value} : FrameBlind (va_Pc as (pre_X ak av D tys sz w)) := fun a U g mk z => by
  obtain ⟨z0, ⟨z1, qP, qK, qD, qN⟩, qX⟩ := z
  exact ⟨z0, ⟨z1, qP, va_K.moved (u := U) (U := U.calling g mk a) (Vm.Alike.refl U.vm) qK, qD, nw_same (u := U) (U := U.calling g mk a) rfl qN⟩, xW_same (u := U) (U := U.calling g mk a) rfl qX⟩
noncomputable def CIX (ak av : Nat) (l : Launch) (y : MethodName) (ws : List Cond) (rm : Room) (D : va_G) (tys : List (ClassId × FieldType)) (w : va_W) (as : List Value) (post : Int32 → va_W → Prop) : Prop :=
  ∀ sz : Nat, Met l y ws rm (va_Pc as (pre_X ak av D tys sz w)) (va_Qi post (at_W D tys (va_A w sz)) (va_A w sz)) rm.cells rm.slots (va_A w sz)
theorem open_IX {ak av : Nat} {l : Launch} {y : MethodName} {ws ws' : List Cond} {rm : Room} {D : va_G} {tys : List (ClassId × FieldType)} {w : va_W} {as : List Value} {post : Int32 → va_W → Prop} {cc : ByteArray} {maxL : Nat} {ret : Option FieldType}
    (hy : plainName y.cls = true) (hw : ws = Cond.code y cc maxL ret :: ws') (hn : (lg_sl as).length ≤ maxL)
    (body : ∀ (p : Program) (e : Env) (s : State) (m : MethodId) (below : List Frame) (meth : Method) (c : Code) (A : Nat → Prop) (ls : Array Slot), Ent p s m meth c cc maxL ret ws y D tys w as A ls → xW ak av A s s.heap →
      W p l e rm s m as.toArray below meth c s.heap [] 0 0 (MQ below (va_Qi post (at_W D tys A) A) as.toArray s rm.cells rm.slots A) (F0 m 0 ls [])) : CIX ak av l y ws rm D tys w as post := by
  intro sz
  refine Met.ofW (cc := cc) (maxL := maxL) (ret := ret) hy hw ?_
  intro p e s m args below meth c s₁ B hml hv
  obtain ⟨rfl, ⟨hsz, hP, hK, hD0, hN⟩, hX⟩ := hv
  subst hsz
  have hl := lv_entry as (n := maxL) hn
  rw [lg_entry_eq]
  generalize (lg_sl as ++ List.replicate (maxL - (lg_sl as).length) Slot.unset).toArray = ls at hl ⊢
  exact body p e s m below meth c _ ls ⟨⟨B.exec, B.bytes, hml, findClass_of_methodNamed B.named, atoms_spec (ws := ws) B.pre⟩, B.returns, B.notSynchronized, (name_of_methodNamed B.named B.method).1, fun q h => Or.inr h, hP, hK, hD0.self (sz := s.heap.size), hN, hl⟩ hX
noncomputable def CVX (ak av : Nat) (l : Launch) (y : MethodName) (ws : List Cond) (rm : Room) (D : va_G) (tys : List (ClassId × FieldType)) (w : va_W) (as : List Value) (post : va_W → Prop) : Prop :=
  ∀ sz : Nat, Met l y ws rm (va_Pc as (pre_X ak av D tys sz w)) (va_Qv post (at_W D tys (va_A w sz)) (va_A w sz)) rm.cells rm.slots (va_A w sz)
theorem open_VX {ak av : Nat} {l : Launch} {y : MethodName} {ws ws' : List Cond} {rm : Room} {D : va_G} {tys : List (ClassId × FieldType)} {w : va_W} {as : List Value} {post : va_W → Prop} {cc : ByteArray} {maxL : Nat} {ret : Option FieldType}
    (hy : plainName y.cls = true) (hw : ws = Cond.code y cc maxL ret :: ws') (hn : (lg_sl as).length ≤ maxL)
    (body : ∀ (p : Program) (e : Env) (s : State) (m : MethodId) (below : List Frame) (meth : Method) (c : Code) (A : Nat → Prop) (ls : Array Slot), Ent p s m meth c cc maxL ret ws y D tys w as A ls → xW ak av A s s.heap →
      W p l e rm s m as.toArray below meth c s.heap [] 0 0 (MQ below (va_Qv post (at_W D tys A) A) as.toArray s rm.cells rm.slots A) (F0 m 0 ls [])) : CVX ak av l y ws rm D tys w as post := by
  intro sz
  refine Met.ofW (cc := cc) (maxL := maxL) (ret := ret) hy hw ?_
  intro p e s m args below meth c s₁ B hml hv
  obtain ⟨rfl, ⟨hsz, hP, hK, hD0, hN⟩, hX⟩ := hv
  subst hsz
  have hl := lv_entry as (n := maxL) hn
  rw [lg_entry_eq]
  generalize (lg_sl as ++ List.replicate (maxL - (lg_sl as).length) Slot.unset).toArray = ls at hl ⊢
  exact body p e s m below meth c _ ls ⟨⟨B.exec, B.bytes, hml, findClass_of_methodNamed B.named, atoms_spec (ws := ws) B.pre⟩, B.returns, B.notSynchronized, (name_of_methodNamed B.named B.method).1, fun q h => Or.inr h, hP, hK, hD0.self (sz := s.heap.size), hN, hl⟩ hX
section QX
variable {p : Program} {l : Launch} {e : Env} {R : Room} {s : State} {m : MethodId} {args : Array Value} {below : List Frame} {meth : Method} {c : Code} {H : Heap} {locs : List Loc} {cells slots : Nat} {D : va_G} {tys : List (ClassId × FieldType)} {w : va_W} {A : Nat → Prop} {ak av : Nat}
theorem q_preX {as : List Value} {wc : va_W} (hN : nw_ok s) (hK : va_K D vwCl tys s) (hP : va_P D vwCl w H) (hD : va_D A w) (hS : va_S A s.heap H locs) (hA : ∀ q, s.heap.size ≤ q → A q) (hX : xW ak av A s s.heap) (isC : List Nat) (hC : isC.map (fun i => w[i]?) = wc.map some) (hn : va_nd isC = true) : PreS s H (va_Pc as (pre_X ak av D tys H.size wc)) as :=
  ⟨blind_X, fun U hU hW => ⟨rfl, ⟨by rw [hU], by rw [hU]; exact hP.sub isC (fm_of_map hC), va_K.moved hW.alike hK, (hD.sub isC hn hC).weaken (fun _ _ _ _ => trivial), nw_warm hW hN⟩, by
    rw [hU]; exact xW_narrow (va_free (wc := wc) hD hS hA isC hC) (xW_warm hW (xW_kept hS.2.1 hX))⟩⟩
theorem q_preX0 {as : List Value} (hN : nw_ok s) (hK : va_K D vwCl tys s) (hS : va_S A s.heap H locs) (hA : ∀ q, s.heap.size ≤ q → A q) (hX : xW ak av A s s.heap) : PreS s H (va_Pc as (pre_X ak av D tys H.size [])) as :=
  ⟨blind_X, fun U hU hW => ⟨rfl, ⟨by rw [hU], fun k q h => by simp at h, va_K.moved hW.alike hK, ⟨fun i j p q h => by simp at h, fun k q h => by simp at h⟩, nw_warm hW hN⟩, by
    rw [hU]
    refine xW_narrow ?_ (xW_warm hW (xW_kept hS.2.1 hX))
    rintro q (⟨k, e, h⟩ | h)
    · simp at h
    · exact hA q (Nat.le_trans hS.1 h)⟩⟩
end QX
section QY
variable {p : Program} {l : Launch} {e : Env} {R : Room} {s : State} {m : MethodId} {args : Array Value} {below : List Frame} {meth : Method} {c : Code} {H : Heap} {locs : List Loc} {cells slots : Nat} {cc : ByteArray} {pc nL : Nat} {ls : Array Slot} {Ts : List Cond} {own : String} {D : va_G} {tys : List (ClassId × FieldType)} {w : va_W} {A : Nat → Prop}
end QY
theorem nar_b : ∀ j, j < 101 → narrow .char (.int (UInt32.toInt32 ((Int32.toUInt32 ((bytL.getD j 0) &&& 255)) % 65536))) = .int (UInt32.toInt32 ((Int32.toUInt32 ((bytL.getD j 0) &&& 255)) % 65536)) := by decide +kernel
/-! ===== what the class's Tokens have for words ===== -/
noncomputable abbrev bcW (j : Nat) : Int32 := UInt32.toInt32 ((Int32.toUInt32 ((bytL.getD j 0) &&& 255)) % 65536)
noncomputable def isLw (x : Int32) : Int32 := if x < 97 then 0 else if 122 < x then 0 else 1
noncomputable abbrev wlW (z : Int64) (x : Int32) : Int64 := (lshlf z 5) ||| (Int32.toInt64 ((x - 97) + 1))
noncomputable def wst : Nat → Nat × Int64 × (Nat → Int64)
  | 0 => (0, 0, fun _ => 0)
  | i + 1 => if ¬ isLw (bcW i) = 0 then ((wst i).1, wlW (wst i).2.1 (bcW i), (wst i).2.2) else if 19 ≤ (wst i).1 then wst i else ((wst i).1 + 1, 0, vp_updL (wst i).2.2 (wst i).1 (wst i).2.1)
noncomputable def wdF : Nat → Int64 := (wst 101).2.2
theorem wst_l {i k : Nat} {z : Int64} {φ : Nat → Int64} {r1 r5 : Int32} {r7 : Int64} (h : wst i = (k, z, φ)) (h1 : narrow .char (.int r1) = .int r1 ∧ r1 = bcW i) (h5 : r5 = isLw r1) (c5 : ¬ r5 = 0) (h7 : r7 = wlW z r1) : wst (i + 1) = (k, r7, φ) := by
  have e1 : (wst i).1 = k := by rw [h]
  have e2 : (wst i).2.1 = z := by rw [h]
  have e3 : (wst i).2.2 = φ := by rw [h]
  have q : ¬ isLw (bcW i) = 0 := by rw [← h1.2, ← h5]; exact c5
  show (if ¬ isLw (bcW i) = 0 then ((wst i).1, wlW (wst i).2.1 (bcW i), (wst i).2.2) else if 19 ≤ (wst i).1 then wst i else ((wst i).1 + 1, 0, vp_updL (wst i).2.2 (wst i).1 (wst i).2.1)) = (k, r7, φ)
  rw [if_pos q, e1, e2, e3, h7, h1.2]
theorem wst_p {i k : Nat} {z : Int64} {φ : Nat → Int64} {r1 r5 : Int32} (h : wst i = (k, z, φ)) (h1 : narrow .char (.int r1) = .int r1 ∧ r1 = bcW i) (h5 : r5 = isLw r1) (c5 : r5 = 0) (hk : k < 19) : wst (i + 1) = (k + 1, 0, vp_updL φ (Int32.toNatClampNeg (nI k)) z) := by
  have e1 : (wst i).1 = k := by rw [h]
  have e2 : (wst i).2.1 = z := by rw [h]
  have e3 : (wst i).2.2 = φ := by rw [h]
  have q : isLw (bcW i) = 0 := by rw [← h1.2, ← h5]; exact c5
  show (if ¬ isLw (bcW i) = 0 then ((wst i).1, wlW (wst i).2.1 (bcW i), (wst i).2.2) else if 19 ≤ (wst i).1 then wst i else ((wst i).1 + 1, 0, vp_updL (wst i).2.2 (wst i).1 (wst i).2.1)) = _
  rw [if_neg (fun w => w q), e1, if_neg (by omega), e2, e3, nI_clamp (by omega)]
theorem wst_s {i k : Nat} {z : Int64} {φ : Nat → Int64} {r1 r5 : Int32} (h : wst i = (k, z, φ)) (h1 : narrow .char (.int r1) = .int r1 ∧ r1 = bcW i) (h5 : r5 = isLw r1) (c5 : r5 = 0) (c6 : (19 : Int32) ≤ nI k) (hk : k ≤ 19) : wst (i + 1) = (k, z, φ) := by
  have e1 : (wst i).1 = k := by rw [h]
  have q : isLw (bcW i) = 0 := by rw [← h1.2, ← h5]; exact c5
  have hk2 : 19 ≤ k := by
    have := tn_le (a := 19) (by decide) (nI_toInt (n := k) (by omega)) c6
    omega
  show (if ¬ isLw (bcW i) = 0 then ((wst i).1, wlW (wst i).2.1 (bcW i), (wst i).2.2) else if 19 ≤ (wst i).1 then wst i else ((wst i).1 + 1, 0, vp_updL (wst i).2.2 (wst i).1 (wst i).2.1)) = _
  rw [if_neg (fun w => w q), e1, if_pos hk2]
  exact h
end
