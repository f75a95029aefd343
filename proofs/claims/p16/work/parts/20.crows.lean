section QN
variable {p : Program} {l : Launch} {e : Env} {R : Room} {s : State} {m : MethodId} {args : Array Value} {below : List Frame} {meth : Method} {c : Code} {H H0 : Heap} {locs : List Loc} {cells slots : Nat} {Q : State → Prop} {cc : ByteArray} {pc nL : Nat} {ls : Array Slot} {rest : List Value} {Ts : List Cond} {own : String} {D : va_G} {tys : List (ClassId × FieldType)} {w : va_W} {A : Nat → Prop}
/-- the class of an array by its kind is one -/
theorem ra_inj {U : State} {c1 c2 : ClassId} {ty : FieldType} (hp : ∀ c, va_RA U c ty = (U.vm.findClass ("[" ++ ty.toString) = some c)) (h1 : va_RA U c1 ty) (h2 : va_RA U c2 ty) : c1 = c2 := by
  rw [hp] at h1 h2
  exact Option.some.inj (h1.symm.trans h2)
theorem q_newa {atype : ArrayType} {ty : FieldType} {cA : ClassId} {n : Int32} {N' : Nat} (a0 : vp_A) (C : CallFix p m c cc nL s args Ts own) (harr : Cond.arrayClass (newarray.typeOf atype) ∈ Ts) (hty : newarray.typeOf atype = ty) (hp : ∀ c, va_RA s c ty = (s.vm.findClass ("[" ++ ty.toString) = some c)) (hK : va_K D vwCl tys s) (hP : va_P D vwCl w H) (hD : va_D A w) (hS : va_S A H0 H locs) (hA : ∀ q, H0.size ≤ q → A q) (t0 : Nat) (ht : tys[t0]? = some (cA, ty)) (ha : ∀ cA : ClassId, vp_cell cA a0 = arrV cA N' (fun _ => defaultValue ty)) (hn : ¬ n < 0) (hN : n.toNatClampNeg = N') (hbytes : N' * componentBytes ty ≤ 536870912) (hcells : cells + 1 ≤ R.cells) (hslots : slots + N' ≤ R.slots) (hdg : decode cc pc = .ok (.newarray atype, 2))
    (kk : ∀ (q : Nat) (H1 : Heap), va_P D vwCl (w ++ [(q, .inl (cA, a0))]) H1 → va_D A (w ++ [(q, .inl (cA, a0))]) → va_S A H0 H1 locs → W p l e R s m args below meth c H1 locs (cells + 1) (slots + N') Q (F0 m (pc + 2) ls (.ref q :: rest))) : W p l e R s m args below meth c H locs cells slots Q (F0 m pc ls (.int n :: rest)) := by
  refine va_newa (atype := atype) C.1 C.2.1 (C.2.2.2.2 _ harr) hty hK hP hD hS hA ha hn hN hbytes hcells hslots hdg (fun q cA2 H1 hK2 hP2 hD2 hS2 => ?_)
  have e : cA2 = cA := ra_inj hp ((hK2.2 tys.length (cA2, ty) (by simp)).2) ((hK.2 t0 _ ht).2)
  subst e
  exact kk q H1 hP2 hD2 hS2
theorem q_newq {Cn : String} {cA : ClassId} {n : Int32} {N' index : Nat} (C : CallFix p m c cc nL s args Ts own) (hcl : Cond.classLink own index Cn ∈ Ts) (hover : va_AO Cn s) (hK : va_K D vwCl tys s) (hP : va_P D vwCl w H) (hD : va_D A w) (hS : va_S A H0 H locs) (hA : ∀ q, H0.size ≤ q → A q) (t0 : Nat) (ht : tys[t0]? = some (cA, .object Cn)) (hn : ¬ n < 0) (hN : n.toNatClampNeg = N') (hbytes : N' * 4 ≤ 536870912) (hcells : cells + 1 ≤ R.cells) (hslots : slots + N' ≤ R.slots) (hdg : decode cc pc = .ok (.anewarray index, 3))
    (kk : ∀ (q : Nat) (H1 : Heap), va_P D vwCl (w ++ [(q, .inl (cA, N', .inr (.inr (.inr (.inr (fun _ => none))))))]) H1 → va_D A (w ++ [(q, .inl (cA, N', .inr (.inr (.inr (.inr (fun _ => none))))))]) → va_S A H0 H1 locs → W p l e R s m args below meth c H1 locs (cells + 1) (slots + N') Q (F0 m (pc + 3) ls (.ref q :: rest))) : W p l e R s m args below meth c H locs cells slots Q (F0 m pc ls (.int n :: rest)) := by
  refine va_newq C.1 C.2.1 C.2.2.2.1 (C.2.2.2.2 _ hcl) hover hK hP hD hS hA hn hN hbytes hcells hslots hdg (fun q cA2 H1 hK2 hP2 hD2 hS2 => ?_)
  have e : cA2 = cA := by
    have h1 := (hK2.2 tys.length (cA2, .object Cn) (by simp)).2
    have h2 := (hK.2 t0 _ ht).2
    obtain ⟨_, _, _, _, _, g1⟩ := h1
    obtain ⟨_, _, _, _, _, g2⟩ := h2
    exact Option.some.inj (g1.symm.trans g2)
  subst e
  exact kk q H1 hP2 hD2 hS2
end QN
theorem nwF_X0_21 : Cond.fieldLinkNest RX0 21 "GuessFerry$Laws" "vars" "[I" "GuessFerry" ∈ tables_1 := List.mem_of_getElem? (i := 62) (by decide +kernel)
theorem nwM_X10_18 : Cond.methodLinkNest RX10 18 yX5_init "GuessFerry" ∈ tables_1 := List.mem_of_getElem? (i := 48) (by decide +kernel)
theorem nwM_X10_25 : Cond.methodLinkNest RX10 25 yX4_init "GuessFerry" ∈ tables_1 := List.mem_of_getElem? (i := 170) (by decide +kernel)
theorem nwM_X10_34 : Cond.methodLinkNest RX10 34 yX6_init "GuessFerry" ∈ tables_1 := List.mem_of_getElem? (i := 292) (by decide +kernel)
theorem nwM_X10_44 : Cond.methodLinkNest RX10 44 yX3_init "GuessFerry" ∈ tables_1 := List.mem_of_getElem? (i := 337) (by decide +kernel)
theorem nwM_X10_51 : Cond.methodLinkNest RX10 51 yX0_init "GuessFerry" ∈ tables_1 := List.mem_of_getElem? (i := 364) (by decide +kernel)
theorem nwM_X10_60 : Cond.methodLinkNest RX10 60 yX2_init "GuessFerry" ∈ tables_1 := List.mem_of_getElem? (i := 377) (by decide +kernel)
theorem nwM_X10_69 : Cond.methodLinkNest RX10 69 yX8_init "GuessFerry" ∈ tables_1 := List.mem_of_getElem? (i := 402) (by decide +kernel)
theorem nwM_X10_9 : Cond.methodLinkNest RX10 9 yX7_init "GuessFerry" ∈ tables_1 := List.mem_of_getElem? (i := 32) (by decide +kernel)
theorem nwM_X3_24 : Cond.methodLinkNest RX3 24 yX6_init "GuessFerry" ∈ tables_1 := List.mem_of_getElem? (i := 343) (by decide +kernel)
theorem nwM_X4_11 : Cond.methodLinkNest RX4 11 yX5_init "GuessFerry" ∈ tables_1 := List.mem_of_getElem? (i := 175) (by decide +kernel)
theorem nwM_X4_28 : Cond.methodLinkNest RX4 28 yX9_init "GuessFerry" ∈ tables_1 := List.mem_of_getElem? (i := 178) (by decide +kernel)
theorem nwM_X5_29 : Cond.methodLinkNest RX5 29 yX1_init "GuessFerry" ∈ tables_1 := List.mem_of_getElem? (i := 54) (by decide +kernel)
