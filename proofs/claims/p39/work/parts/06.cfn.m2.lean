section
noncomputable abbrev KS : Type := (Nat → Int32) × (Nat → Nat → Int32) × (Nat → Nat → Int64) × (Nat → Int64)
noncomputable def KS.v (s : KS) : Nat → Int32 := s.1
noncomputable def KS.f (s : KS) : Nat → Nat → Int32 := s.2.1
noncomputable def KS.g (s : KS) : Nat → Nat → Int64 := s.2.2.1
noncomputable def KS.u (s : KS) : Nat → Int64 := s.2.2.2
noncomputable def KS.sv (s : KS) (k : Nat) (x : Int32) : KS := (va_up s.v k x, s.f, s.g, s.u)
noncomputable def KS.sf (s : KS) (k i : Nat) (x : Int32) : KS := (s.v, va_up s.f k (upd (s.f k) i x), s.g, s.u)
noncomputable def KS.sa (s : KS) (k : Nat) (x : Nat → Int32) : KS := (s.v, va_up s.f k x, s.g, s.u)
noncomputable def KS.sg (s : KS) (k i : Nat) (x : Int64) : KS := (s.v, s.f, va_up s.g k (vp_updL (s.g k) i x), s.u)
noncomputable def KS.su (s : KS) (k : Nat) (x : Int64) : KS := (s.v, s.f, s.g, va_up s.u k x)
noncomputable abbrev SD : Type := (Nat → Int32) × (Nat → Nat → Int32)
noncomputable def SD.v (s : SD) : Nat → Int32 := s.1
noncomputable def SD.f (s : SD) : Nat → Nat → Int32 := s.2
noncomputable def SD.sv (s : SD) (k : Nat) (x : Int32) : SD := (va_up s.v k x, s.f)
noncomputable def SD.sf (s : SD) (k i : Nat) (x : Int32) : SD := (s.v, va_up s.f k (upd (s.f k) i x))
noncomputable def SD.sa (s : SD) (k : Nat) (x : Nat → Int32) : SD := (s.v, va_up s.f k x)
noncomputable abbrev JS : Type := KS × SD
noncomputable def JS.mk (k : KS) (d : SD) : JS := (k, d)
noncomputable def JS.k (s : JS) : KS := s.1
noncomputable def JS.d (s : JS) : SD := s.2
noncomputable def JS.sv (s : JS) (k : Nat) (x : Int32) : JS := JS.mk (s.k.sv k x) s.d
noncomputable def JS.sf (s : JS) (k i : Nat) (x : Int32) : JS := JS.mk (s.k.sf k i x) s.d
noncomputable def JS.sa (s : JS) (k : Nat) (x : Nat → Int32) : JS := JS.mk (s.k.sa k x) s.d
noncomputable def JS.sg (s : JS) (k i : Nat) (x : Int64) : JS := JS.mk (s.k.sg k i x) s.d
noncomputable def JS.dsv (s : JS) (k : Nat) (x : Int32) : JS := JS.mk s.k (s.d.sv k x)
noncomputable def JS.dsf (s : JS) (k i : Nat) (x : Int32) : JS := JS.mk s.k (s.d.sf k i x)
noncomputable def JS.dsa (s : JS) (k : Nat) (x : Nat → Int32) : JS := JS.mk s.k (s.d.sa k x)
noncomputable abbrev DS : Type := SD × SD
noncomputable def DS.mk (d e : SD) : DS := (d, e)
noncomputable def DS.d (s : DS) : SD := s.1
noncomputable def DS.e (s : DS) : SD := s.2
noncomputable abbrev GS : Type := (Nat → Int32) × (Nat → Nat → Int32)
noncomputable def GS.v (s : GS) : Nat → Int32 := s.1
noncomputable def GS.f (s : GS) : Nat → Nat → Int32 := s.2
noncomputable def GS.sv (s : GS) (k : Nat) (x : Int32) : GS := (va_up s.v k x, s.f)
noncomputable def GS.sf (s : GS) (k i : Nat) (x : Int32) : GS := (s.v, va_up s.f k (upd (s.f k) i x))
noncomputable abbrev XS : Type := GS × SD × SD × KS
noncomputable def XS.mk (g : GS) (t n : SD) (k : KS) : XS := (g, t, n, k)
noncomputable def XS.g (s : XS) : GS := s.1
noncomputable def XS.t (s : XS) : SD := s.2.1
noncomputable def XS.n (s : XS) : SD := s.2.2.1
noncomputable def XS.k (s : XS) : KS := s.2.2.2
noncomputable def DS.dsv (s : DS) (k : Nat) (x : Int32) : DS := DS.mk (s.d.sv k x) s.e
noncomputable def DS.dsa (s : DS) (k : Nat) (x : Nat → Int32) : DS := DS.mk (s.d.sa k x) s.e
noncomputable def XS.sv (s : XS) (k : Nat) (x : Int32) : XS := XS.mk s.g s.t s.n (s.k.sv k x)
noncomputable def XS.sf (s : XS) (k i : Nat) (x : Int32) : XS := XS.mk s.g s.t s.n (s.k.sf k i x)
noncomputable def XS.nsv (s : XS) (k : Nat) (x : Int32) : XS := XS.mk s.g s.t (s.n.sv k x) s.k
noncomputable def XS.nsf (s : XS) (k i : Nat) (x : Int32) : XS := XS.mk s.g s.t (s.n.sf k i x) s.k
noncomputable def XS.nsa (s : XS) (k : Nat) (x : Nat → Int32) : XS := XS.mk s.g s.t (s.n.sa k x) s.k
noncomputable def XS.tsf (s : XS) (k i : Nat) (x : Int32) : XS := XS.mk s.g (s.t.sf k i x) s.n s.k
noncomputable abbrev mmax (x y : Int32) : Int32 := if x < y then y else x
noncomputable abbrev mmin (x y : Int32) : Int32 := if y < x then y else x
noncomputable abbrev lshlf (x : Int64) (y : Int32) : Int64 := x <<< (y.toInt64 &&& 63)
noncomputable abbrev wK (cB cI cJ cZ cS : ClassId) (a : Nat → Nat) (s : KS) : va_W := [(a 0, .inr (7, [.ref (a 1), .int (s.v 0)])), (a 1, .inl (cB, 2000, .inl (s.f 1))), (a 2, .inr (5, [.ref (a 3), .ref (a 4), .ref (a 5), .ref (a 6), .ref (a 7), .ref (a 8), .int (s.v 1), .int (s.v 2), .int (s.v 3), .int (s.v 4)])), (a 3, .inl (cI, 30, .inl (s.f 3))), (a 4, .inl (cI, 5, .inl (s.f 4))), (a 5, .inl (cI, 5, .inl (s.f 5))), (a 6, .inl (cI, 6, .inl (s.f 6))), (a 7, .inl (cI, 6, .inl (s.f 7))), (a 8, .inr (1, [.ref (a 9), .ref (a 10), .ref (a 11), .ref (a 12), .ref (a 13), .ref (a 14), .int (s.v 5), .int (s.v 6), .int (s.v 7)])), (a 9, .inl (cI, 404, .inl (s.f 9))), (a 10, .inl (cI, 52, .inl (s.f 10))), (a 11, .inl (cI, 4, .inl (s.f 11))), (a 12, .inl (cI, 4, .inl (s.f 12))), (a 13, .inl (cI, 9, .inl (s.f 13))), (a 14, .inl (cI, 16, .inl (s.f 14))), (a 15, .inr (5, [.ref (a 16), .ref (a 17), .ref (a 18), .ref (a 19), .ref (a 20), .ref (a 21), .int (s.v 8), .int (s.v 9), .int (s.v 10), .int (s.v 11)])), (a 16, .inl (cI, 30, .inl (s.f 16))), (a 17, .inl (cI, 5, .inl (s.f 17))), (a 18, .inl (cI, 5, .inl (s.f 18))), (a 19, .inl (cI, 6, .inl (s.f 19))), (a 20, .inl (cI, 6, .inl (s.f 20))), (a 21, .inr (1, [.ref (a 22), .ref (a 23), .ref (a 24), .ref (a 25), .ref (a 26), .ref (a 27), .int (s.v 12), .int (s.v 13), .int (s.v 14)])), (a 22, .inl (cI, 404, .inl (s.f 22))), (a 23, .inl (cI, 52, .inl (s.f 23))), (a 24, .inl (cI, 4, .inl (s.f 24))), (a 25, .inl (cI, 4, .inl (s.f 25))), (a 26, .inl (cI, 9, .inl (s.f 26))), (a 27, .inl (cI, 16, .inl (s.f 27))), (a 28, .inr (4, [.ref (a 30), .ref (a 15), .ref (a 29), .int (s.v 15), .int (s.v 16), .int (s.v 17), .int (s.v 18), .int (s.v 19)])), (a 29, .inl (cJ, 6, .inr (.inl (s.g 29)))), (a 30, .inr (9, [.ref (a 0), .ref (a 31), .ref (a 32), .ref (a 33), .ref (a 34), .int (s.v 20), .long (s.u 0)])), (a 31, .inl (cJ, 19, .inr (.inl (s.g 31)))), (a 32, .inl (cI, 401, .inl (s.f 32))), (a 33, .inl (cI, 401, .inl (s.f 33))), (a 34, .inl (cJ, 401, .inr (.inl (s.g 34)))), (a 35, .inr (0, [.ref (a 2), .ref (a 13)])), (a 36, .inr (2, [.ref (a 2), .ref (a 35), .ref (a 37), .ref (a 38), .ref (a 39), .ref (a 40)])), (a 37, .inl (cI, 216, .inl (s.f 37))), (a 38, .inl (cI, 36, .inl (s.f 38))), (a 39, .inl (cI, 20, .inl (s.f 39))), (a 40, .inl (cI, 20, .inl (s.f 40))), (a 41, .inr (8, [.ref (a 2), .ref (a 35), .ref (a 42), .ref (a 43), .ref (a 44), .ref (a 45), .ref (a 46), .int (s.v 21)])), (a 42, .inl (cI, 20, .inl (s.f 42))), (a 43, .inl (cI, 20, .inl (s.f 43))), (a 44, .inl (cI, 30, .inl (s.f 44))), (a 45, .inl (cI, 30, .inl (s.f 45))), (a 46, .inl (cI, 4, .inl (s.f 46)))]
noncomputable abbrev wD (cI : ClassId) (b : Nat → Nat) (s : SD) : va_W := [(b 0, .inr (6, [.ref (b 1), .ref (b 2), .ref (b 3), .ref (b 4), .ref (b 5), .int (s.v 5), .int (s.v 6)])), (b 1, .inl (cI, 5, .inl (s.f 0))), (b 2, .inl (cI, 5, .inl (s.f 1))), (b 3, .inl (cI, 5, .inl (s.f 2))), (b 4, .inl (cI, 6, .inl (s.f 3))), (b 5, .inl (cI, 6, .inl (s.f 4)))]
noncomputable abbrev wDD (cI : ClassId) (b b2 : Nat → Nat) (s : DS) : va_W := wD cI b2 s.e ++ wD cI b s.d
noncomputable abbrev wG (cZ cS : ClassId) (a b b2 c0 : Nat → Nat) (rg sl : Nat → Option Nat) (s : GS) : va_W := [(c0 0, .inr (10, [.ref (a 0), .ref (a 2), .ref (a 28), .ref (b 0), .ref (b2 0), .ref (c0 1), .ref (a 35), .ref (a 36), .ref (a 41)])), (c0 1, .inr (3, [.ref (c0 2), .ref (c0 3), .ref (c0 4), .int (s.v 3), .int (s.v 4)])), (c0 2, .inl (cS, 40, .inr (.inr (.inr (.inr rg))))), (c0 3, .inl (cS, 3, .inr (.inr (.inr (.inr sl))))), (c0 4, .inl (cZ, 3, .inl (s.f 4)))]
noncomputable abbrev wX (cB cI cJ cZ cS : ClassId) (a b b2 c0 : Nat → Nat) (rg sl : Nat → Option Nat) (s : XS) : va_W := wG cZ cS a b b2 c0 rg sl s.g ++ (wD cI b2 s.t ++ (wD cI b s.n ++ wK cB cI cJ cZ cS a s.k))
noncomputable abbrev wJ (cB cI cJ cZ cS : ClassId) (a b : Nat → Nat) (s : JS) : va_W := wD cI b s.d ++ wK cB cI cJ cZ cS a s.k
/-! ===== the text of SIGNS: what stands of it, at a method's start ===== -/
noncomputable def txS : String := ";=+-*/<()"
noncomputable def bytS : List Int32 := [59, 61, 43, 45, 42, 47, 60, 40, 41]
noncomputable def sgn (j : Nat) : Int32 := bytS.getD j 0
noncomputable def xS (ak av : Nat) (A : Nat → Prop) (U : State) (H : Heap) : Prop :=
  vk_R "GuessFerry$Tokens" 81 txS ak U ∧ va_O "java/lang/String" ak A U H ∧ va_OF "java/lang/String" "coder" "B" (.int 0) ak A U H ∧ va_OF "java/lang/String" "value" "[B" (.ref av) ak A U H ∧ va_T .byte av 9 (fun j => .int (sgn j)) A U H ∧ va_Z "java/lang/String" "COMPACT_STRINGS" "Z" (.int 1) A U H
theorem xS_same {ak av : Nat} {A : Nat → Prop} {u U : State} {H : Heap} (h : u.vm = U.vm) (x : xS ak av A u H) : xS ak av A U H := by
  obtain ⟨x2, x3, x4, x5, x6, x7⟩ := x
  have hvm : u.vm.Alike U.vm := by rw [h]; exact Vm.Alike.refl U.vm
  exact ⟨vk_R.same h.symm x2, x3.moved hvm, x4.moved hvm, x5.moved hvm, x6.moved hvm, x7.moved hvm⟩
theorem xS_warm {ak av : Nat} {A : Nat → Prop} {s U : State} {H : Heap} (hW : s.WarmedH U.vm) (x : xS ak av A s H) : xS ak av A U H := by
  obtain ⟨x2, x3, x4, x5, x6, x7⟩ := x
  have hvm := hW.alike
  exact ⟨vk_R.warm hW x2, x3.moved hvm, x4.moved hvm, x5.moved hvm, x6.moved hvm, x7.moved hvm⟩
theorem xS_kept {ak av : Nat} {A : Nat → Prop} {U : State} {H H1 : Heap} (hq : ∀ a : Nat, a < H.size → ¬ A a → H1[a]? = H[a]?) (x : xS ak av A U H) : xS ak av A U H1 := by
  obtain ⟨x2, x3, x4, x5, x6, x7⟩ := x
  exact ⟨x2, x3.kept hq, x4.kept hq, x5.kept hq, x6.kept hq, x7.kept hq⟩
theorem xS_narrow {ak av : Nat} {A B : Nat → Prop} {U : State} {H : Heap} (hAB : ∀ q, B q → A q) (x : xS ak av A U H) : xS ak av B U H := by
  obtain ⟨x2, x3, x4, x5, x6, x7⟩ := x
  exact ⟨x2, x3.narrow hAB, x4.narrow hAB, x5.narrow hAB, x6.narrow hAB, x7.narrow hAB⟩
noncomputable abbrev pre_S (ak av : Nat) (D : va_G) (tys : List (ClassId × FieldType)) (sz : Nat) (w : va_W) : State → Prop := fun U => pre_W D tys sz w U ∧ xS ak av (va_A w sz) U U.heap
theorem blind_S {ak av : Nat} {D : va_G} {tys : List (ClassId × FieldType)} {sz : Nat} {w : va_W} {as : List Value} : FrameBlind (va_Pc as (pre_S ak av D tys sz w)) := fun a U g mk z => by
  obtain ⟨z0, ⟨z1, qP, qK, qD, qN⟩, qX⟩ := z
  exact ⟨z0, ⟨z1, qP, va_K.moved (u := U) (U := U.calling g mk a) (Vm.Alike.refl U.vm) qK, qD, nw_same (u := U) (U := U.calling g mk a) rfl qN⟩, xS_same (u := U) (U := U.calling g mk a) rfl qX⟩
noncomputable def CIS (ak av : Nat) (l : Launch) (y : MethodName) (ws : List Cond) (rm : Room) (D : va_G) (tys : List (ClassId × FieldType)) (w : va_W) (as : List Value) (post : Int32 → va_W → Prop) : Prop :=
  ∀ sz : Nat, Met l y ws rm (va_Pc as (pre_S ak av D tys sz w)) (va_Qi post (at_W D tys (va_A w sz)) (va_A w sz)) rm.cells rm.slots (va_A w sz)
noncomputable def CVS (ak av : Nat) (l : Launch) (y : MethodName) (ws : List Cond) (rm : Room) (D : va_G) (tys : List (ClassId × FieldType)) (w : va_W) (as : List Value) (post : va_W → Prop) : Prop :=
  ∀ sz : Nat, Met l y ws rm (va_Pc as (pre_S ak av D tys sz w)) (va_Qv post (at_W D tys (va_A w sz)) (va_A w sz)) rm.cells rm.slots (va_A w sz)
noncomputable def BlkIS (ak av : Nat) (l : Launch) (y : MethodName) (ws : List Cond) (rm : Room) (cc : ByteArray) (maxL : Nat) (ret : Option FieldType) (D : va_G) (tys : List (ClassId × FieldType)) (as : List Value) (pc : Nat) (w : va_W) (lv : List (Nat × Value)) (st : List Value) (post : Int32 → va_W → Prop) : Prop :=
  ∀ (p : Program) (e : Env) (s : State) (m : MethodId) (below : List Frame) (meth : Method) (c : Code) (A : Nat → Prop), EntB p s m meth c cc maxL ret ws y D tys as A → xS ak av A s s.heap → ∀ (H : Heap) (locs : List Loc) (ls : Array Slot), va_P D vwCl w H → va_D A w → va_S A s.heap H locs → lv_has ls maxL lv →
    W p l e rm s m as.toArray below meth c H locs 0 0 (MQ below (va_Qi post (at_W D tys A) A) as.toArray s rm.cells rm.slots A) (F0 m pc ls st)
noncomputable def BlkVS (ak av : Nat) (l : Launch) (y : MethodName) (ws : List Cond) (rm : Room) (cc : ByteArray) (maxL : Nat) (ret : Option FieldType) (D : va_G) (tys : List (ClassId × FieldType)) (as : List Value) (pc : Nat) (w : va_W) (lv : List (Nat × Value)) (st : List Value) (post : va_W → Prop) : Prop :=
  ∀ (p : Program) (e : Env) (s : State) (m : MethodId) (below : List Frame) (meth : Method) (c : Code) (A : Nat → Prop), EntB p s m meth c cc maxL ret ws y D tys as A → xS ak av A s s.heap → ∀ (H : Heap) (locs : List Loc) (ls : Array Slot), va_P D vwCl w H → va_D A w → va_S A s.heap H locs → lv_has ls maxL lv →
    W p l e rm s m as.toArray below meth c H locs 0 0 (MQ below (va_Qv post (at_W D tys A) A) as.toArray s rm.cells rm.slots A) (F0 m pc ls st)
theorem CIS_of {ak av : Nat} {l : Launch} {y : MethodName} {ws ws' : List Cond} {rm : Room} {D : va_G} {tys : List (ClassId × FieldType)} {w : va_W} {as : List Value} {post : Int32 → va_W → Prop} {cc : ByteArray} {maxL : Nat} {ret : Option FieldType}
    (hy : plainName y.cls = true) (hw : ws = Cond.code y cc maxL ret :: ws') (hn : (lg_sl as).length ≤ maxL) (h : BlkIS ak av l y ws rm cc maxL ret D tys as 0 w (lv_args 0 as) [] post) : CIS ak av l y ws rm D tys w as post := by
  intro sz
  refine Met.ofW (cc := cc) (maxL := maxL) (ret := ret) hy hw ?_
  intro p e s m args below meth c s₁ B hml hv
  obtain ⟨rfl, ⟨hsz, hP, hK, hD0, hN⟩, hX⟩ := hv
  subst hsz
  have hl := lv_entry as (n := maxL) hn
  rw [lg_entry_eq]
  generalize (lg_sl as ++ List.replicate (maxL - (lg_sl as).length) Slot.unset).toArray = ls at hl ⊢
  exact h p e s m below meth c _ ⟨⟨B.exec, B.bytes, hml, findClass_of_methodNamed B.named, atoms_spec (ws := ws) B.pre⟩, B.returns, B.notSynchronized, fun q h => Or.inr h, hK, hN⟩ hX s.heap [] ls hP (hD0.self (sz := s.heap.size)) va_S.rf hl
theorem CVS_of {ak av : Nat} {l : Launch} {y : MethodName} {ws ws' : List Cond} {rm : Room} {D : va_G} {tys : List (ClassId × FieldType)} {w : va_W} {as : List Value} {post : va_W → Prop} {cc : ByteArray} {maxL : Nat} {ret : Option FieldType}
    (hy : plainName y.cls = true) (hw : ws = Cond.code y cc maxL ret :: ws') (hn : (lg_sl as).length ≤ maxL) (h : BlkVS ak av l y ws rm cc maxL ret D tys as 0 w (lv_args 0 as) [] post) : CVS ak av l y ws rm D tys w as post := by
  intro sz
  refine Met.ofW (cc := cc) (maxL := maxL) (ret := ret) hy hw ?_
  intro p e s m args below meth c s₁ B hml hv
  obtain ⟨rfl, ⟨hsz, hP, hK, hD0, hN⟩, hX⟩ := hv
  subst hsz
  have hl := lv_entry as (n := maxL) hn
  rw [lg_entry_eq]
  generalize (lg_sl as ++ List.replicate (maxL - (lg_sl as).length) Slot.unset).toArray = ls at hl ⊢
  exact h p e s m below meth c _ ⟨⟨B.exec, B.bytes, hml, findClass_of_methodNamed B.named, atoms_spec (ws := ws) B.pre⟩, B.returns, B.notSynchronized, fun q h => Or.inr h, hK, hN⟩ hX s.heap [] ls hP (hD0.self (sz := s.heap.size)) va_S.rf hl
section QS
variable {p : Program} {l : Launch} {e : Env} {R : Room} {s : State} {m : MethodId} {args : Array Value} {below : List Frame} {meth : Method} {c : Code} {H H0 : Heap} {locs : List Loc} {cells slots : Nat} {Q : State → Prop} {cc : ByteArray} {pc nL : Nat} {ls : Array Slot} {rest : List Value} {Ts : List Cond} {own : String} {D : va_G} {tys : List (ClassId × FieldType)} {w : va_W} {A : Nat → Prop} {ak av : Nat}
theorem q_preS {as : List Value} {wc : va_W} (hN : nw_ok s) (hK : va_K D vwCl tys s) (hP : va_P D vwCl w H) (hD : va_D A w) (hS : va_S A s.heap H locs) (hA : ∀ q, s.heap.size ≤ q → A q) (hX : xS ak av A s s.heap) (isC : List Nat) (hC : isC.map (fun i => w[i]?) = wc.map some) (hn : va_nd isC = true) : PreS s H (va_Pc as (pre_S ak av D tys H.size wc)) as :=
  ⟨blind_S, fun U hU hW => ⟨rfl, ⟨by rw [hU], by rw [hU]; exact hP.sub isC (fm_of_map hC), va_K.moved hW.alike hK, (hD.sub isC hn hC).weaken (fun _ _ _ _ => trivial), nw_warm hW hN⟩, by
    rw [hU]; exact xS_narrow (va_free (wc := wc) hD hS hA isC hC) (xS_warm hW (xS_kept hS.2.1 hX))⟩⟩
theorem q_preSF {as : List Value} (hN : nw_ok s) (hK : va_K D vwCl tys s) (hP : va_P D vwCl w H) (hD : va_D A w) (hS : va_S A s.heap H locs) (hA : ∀ q, s.heap.size ≤ q → A q) (hX : xS ak av A s s.heap) : PreS s H (va_Pc as (pre_S ak av D tys H.size w)) as :=
  ⟨blind_S, fun U hU hW => ⟨rfl, ⟨by rw [hU], by rw [hU]; exact hP, va_K.moved hW.alike hK, hD.weaken (fun _ _ _ _ => trivial), nw_warm hW hN⟩, by
    rw [hU]; exact xS_narrow (q_freeF hD hS hA) (xS_warm hW (xS_kept hS.2.1 hX))⟩⟩
theorem q_preS0 {as : List Value} (hN : nw_ok s) (hK : va_K D vwCl tys s) (hS : va_S A s.heap H locs) (hA : ∀ q, s.heap.size ≤ q → A q) (hX : xS ak av A s s.heap) : PreS s H (va_Pc as (pre_S ak av D tys H.size [])) as :=
  ⟨blind_S, fun U hU hW => ⟨rfl, ⟨by rw [hU], fun k q h => by simp at h, va_K.moved hW.alike hK, ⟨fun i j p q h => by simp at h, fun k q h => by simp at h⟩, nw_warm hW hN⟩, by
    rw [hU]
    refine xS_narrow ?_ (xS_warm hW (xS_kept hS.2.1 hX))
    rintro q (⟨k, e, h⟩ | h)
    · simp at h
    · exact hA q (Nat.le_trans hS.1 h)⟩⟩
theorem q_nret {post : Int32 → va_W → Prop} {v : Int32} {ty : FieldType} {mc ms : Nat} (C : CallFix p m c cc nL s args Ts own) (hr : meth.sig.returnType = some ty) (hlocks : meth.locks = false) (hn : narrow ty (.int v) = .int v) (hK : va_K D vwCl tys s) (hP : va_P D vwCl w H) (hD : va_D A w) (hS : va_S A s.heap H locs) (h1 : cells ≤ mc) (h2 : slots ≤ ms) (hdg : decode cc pc = .ok (.ireturn, 1)) (hpost : post v w) :
    W p l e R s m args below meth c H locs cells slots (MQ below (va_Qi post (at_W D tys A) A) args s mc ms A) (F0 m pc ls [.int v]) :=
  W.widen h1 h2 (W.zret C.1 C.2.1 hr hn (fun t ht hW => ⟨⟨v, w, rfl, hpost, by rw [ht]; exact hP, va_K.moved hW.alike hK, hD⟩, hS.F ht⟩) hS.2.2 hdg hlocks)
theorem q_aldq {a x : Nat} {cA : ClassId} {Cn : String} {n : Nat} {f : Nat → Option Nat} {i : Int32} (C : CallFix p m c cc nL s args Ts own) (hK : va_K D vwCl tys s) (hP : va_P D vwCl w H) (q0 t0 : Nat) (ha : w[q0]? = some (a, .inl (cA, n, .inr (.inr (.inr (.inr f)))))) (ht : tys[t0]? = some (cA, .object Cn)) (hin : vp_in i n) (hdg : decode cc pc = .ok (.aaload, 1)) (hv : f i.toNatClampNeg = some x) (kk : W p l e R s m args below meth c H locs cells slots Q (F0 m (pc + 1) ls (.ref x :: rest))) : W p l e R s m args below meth c H locs cells slots Q (F0 m pc ls (.int i :: .ref a :: rest)) :=
  va_aldq C.1 C.2.1 hK hP q0 t0 ha ht hin hdg (by rw [hv]; exact kk)
/-! ===== worlds with a pool behind them ===== -/
theorem q_freeT {X wc pl : va_W} (hD : va_D A (X ++ pl)) (hS : va_S A H0 H locs) (hA : ∀ q, H0.size ≤ q → A q) (isC : List Nat) (hC : isC.map (fun i => X[i]?) = wc.map some) : ∀ q, va_A wc H.size q → A q := by
  intro q h
  rcases h with ⟨k, e, h⟩ | h
  · obtain ⟨i, h1, h2⟩ := va_in_of isC hC h
    exact hD.2 i (q, e) (by rw [List.getElem?_append_left (List.getElem?_eq_some_iff.mp h2).1]; exact h2)
  · exact hA q (Nat.le_trans hS.1 h)
theorem q_goiT {post : Int32 → va_W → Prop} {a : Array Value} {mc ms : Nat} {st : List Value} {X wc wr pl : va_W} (hr : va_Run p l e R s m args below meth c H locs cells slots mc ms (F0 m pc ls st) rest (va_Qi post (at_W D tys (va_A wc H.size)) (va_A wc H.size) a) (va_A wc H.size)) (hP : va_P D vwCl (X ++ pl) H) (hD : va_D A (X ++ pl)) (hS : va_S A H0 H locs) (hA : ∀ q, H0.size ≤ q → A q) (isC isR : List Nat) (hC : isC.map (fun i => X[i]?) = wc.map some) (hR : isR.map (fun i => X[i]?) = wr.map some) (hn : va_nd isR = true) (hdis : ∀ i ∈ isR, i ∉ isC)
    (kk : ∀ (r : Int32) (w1 : va_W) (H1 : Heap) (locs1 : List Loc), post r w1 → va_P D vwCl ((wr ++ w1) ++ pl) H1 → va_D A ((wr ++ w1) ++ pl) → va_S A H0 H1 locs1 → W p l e R s m args below meth c H1 locs1 (cells + mc) (slots + ms) Q (F0 m (pc + 3) ls (.int r :: rest))) : W p l e R s m args below meth c H locs cells slots Q (F0 m pc ls st) := by
  have hF := q_freeT (wc := wc) hD hS hA isC hC
  exact va_calli hr hS (fun q _ h => hF q h) hF (fun r u t H1 locs1 ht hvm hw hB hz1 hk1 hS1 => by
    obtain ⟨hP1, hD1⟩ := va_joinQ (wr := wr) (w1 := u) hP hD isC isR hC hR hn hdis hk1 hF (by rw [← ht]; exact hB.1) hB.2.2
    exact kk r u H1 locs1 hw hP1 hD1 hS1)
theorem q_govT {post : va_W → Prop} {a : Array Value} {mc ms : Nat} {st : List Value} {X wc wr pl : va_W} (hr : va_Run p l e R s m args below meth c H locs cells slots mc ms (F0 m pc ls st) rest (va_Qv post (at_W D tys (va_A wc H.size)) (va_A wc H.size) a) (va_A wc H.size)) (hP : va_P D vwCl (X ++ pl) H) (hD : va_D A (X ++ pl)) (hS : va_S A H0 H locs) (hA : ∀ q, H0.size ≤ q → A q) (isC isR : List Nat) (hC : isC.map (fun i => X[i]?) = wc.map some) (hR : isR.map (fun i => X[i]?) = wr.map some) (hn : va_nd isR = true) (hdis : ∀ i ∈ isR, i ∉ isC)
    (kk : ∀ (w1 : va_W) (H1 : Heap) (locs1 : List Loc), post w1 → va_P D vwCl ((wr ++ w1) ++ pl) H1 → va_D A ((wr ++ w1) ++ pl) → va_S A H0 H1 locs1 → W p l e R s m args below meth c H1 locs1 (cells + mc) (slots + ms) Q (F0 m (pc + 3) ls (rest))) : W p l e R s m args below meth c H locs cells slots Q (F0 m pc ls st) := by
  have hF := q_freeT (wc := wc) hD hS hA isC hC
  exact va_callv hr hS (fun q _ h => hF q h) hF (fun u t H1 locs1 ht hvm hw hB hz1 hk1 hS1 => by
    obtain ⟨hP1, hD1⟩ := va_joinQ (wr := wr) (w1 := u) hP hD isC isR hC hR hn hdis hk1 hF (by rw [← ht]; exact hB.1) hB.2.2
    exact kk u H1 locs1 hw hP1 hD1 hS1)
theorem q_preP {as : List Value} {X cx pl : va_W} (hN : nw_ok s) (hK : va_K D vwCl tys s) (hP : va_P D vwCl (X ++ pl) H) (hD : va_D A (X ++ pl)) (isC : List Nat) (hC : isC.map (fun i => X[i]?) = cx.map some) (hn : va_nd isC = true) : PreS s H (va_Pc as (pre_W D tys H.size (cx ++ pl))) as :=
  ⟨blind_W, fun U hU hW => ⟨rfl, by rw [hU], by rw [hU]; exact hP.part isC hC, va_K.moved hW.alike hK, (hD.part isC hn hC).weaken (fun _ _ _ _ => trivial), nw_warm hW hN⟩⟩
theorem q_goiP {r0 : Int32} {a : Array Value} {mc ms : Nat} {st : List Value} {X cx wr rx pl pl1 : va_W} (hr : va_Run p l e R s m args below meth c H locs cells slots mc ms (F0 m pc ls st) rest (va_Qi (fun x u => x = r0 ∧ u = rx ++ pl1) (at_W D tys (va_A (cx ++ pl) H.size)) (va_A (cx ++ pl) H.size) a) (va_A (cx ++ pl) H.size)) (hP : va_P D vwCl (X ++ pl) H) (hD : va_D A (X ++ pl)) (hS : va_S A H0 H locs) (hA : ∀ q, H0.size ≤ q → A q) (isC isR : List Nat) (hC : isC.map (fun i => X[i]?) = cx.map some) (hR : isR.map (fun i => X[i]?) = wr.map some) (hn : va_nd isR = true) (hdis : ∀ i ∈ isR, i ∉ isC)
    (kk : ∀ (H1 : Heap) (locs1 : List Loc), va_P D vwCl ((wr ++ rx) ++ pl1) H1 → va_D A ((wr ++ rx) ++ pl1) → va_S A H0 H1 locs1 → W p l e R s m args below meth c H1 locs1 (cells + mc) (slots + ms) Q (F0 m (pc + 3) ls (.int r0 :: rest))) : W p l e R s m args below meth c H locs cells slots Q (F0 m pc ls st) := by
  have hF := va_freeP (cx := cx) hD hS hA isC hC
  exact va_calli hr hS (fun q _ h => hF q h) hF (fun r u t H1 locs1 ht hvm hw hB hz1 hk1 hS1 => by
    obtain ⟨rfl, rfl⟩ := hw
    obtain ⟨hP1, hD1⟩ := va_joinP (wr := wr) (rx := rx) (pl1 := pl1) hP hD isC isR hC hR hn hdis hk1 hF (by rw [← ht]; exact hB.1) hB.2.2
    exact kk H1 locs1 hP1 hD1 hS1)
theorem q_govP {a : Array Value} {mc ms : Nat} {st : List Value} {X cx wr rx pl pl1 : va_W} (hr : va_Run p l e R s m args below meth c H locs cells slots mc ms (F0 m pc ls st) rest (va_Qv (fun u => u = rx ++ pl1) (at_W D tys (va_A (cx ++ pl) H.size)) (va_A (cx ++ pl) H.size) a) (va_A (cx ++ pl) H.size)) (hP : va_P D vwCl (X ++ pl) H) (hD : va_D A (X ++ pl)) (hS : va_S A H0 H locs) (hA : ∀ q, H0.size ≤ q → A q) (isC isR : List Nat) (hC : isC.map (fun i => X[i]?) = cx.map some) (hR : isR.map (fun i => X[i]?) = wr.map some) (hn : va_nd isR = true) (hdis : ∀ i ∈ isR, i ∉ isC)
    (kk : ∀ (H1 : Heap) (locs1 : List Loc), va_P D vwCl ((wr ++ rx) ++ pl1) H1 → va_D A ((wr ++ rx) ++ pl1) → va_S A H0 H1 locs1 → W p l e R s m args below meth c H1 locs1 (cells + mc) (slots + ms) Q (F0 m (pc + 3) ls (rest))) : W p l e R s m args below meth c H locs cells slots Q (F0 m pc ls st) := by
  have hF := va_freeP (cx := cx) hD hS hA isC hC
  exact va_callv hr hS (fun q _ h => hF q h) hF (fun u t H1 locs1 ht hvm hw hB hz1 hk1 hS1 => by
    subst hw
    obtain ⟨hP1, hD1⟩ := va_joinP (wr := wr) (rx := rx) (pl1 := pl1) hP hD isC isR hC hR hn hdis hk1 hF (by rw [← ht]; exact hB.1) hB.2.2
    exact kk H1 locs1 hP1 hD1 hS1)
end QS
theorem vpb_lt {i : Int32} {n : Nat} (h : vpb i n = true) : i.toNatClampNeg < n := by
  have h1 : ¬ (i < 0 ∨ n ≤ i.toNatClampNeg) := vpb_in h
  exact Nat.lt_of_not_le (fun q => h1 (Or.inr q))
/-- the pool of standings: the ring's forty, the slots' three -/
noncomputable def wPool (cI : ClassId) (bb : Nat → Nat → Nat) (r : Nat → SD) : Nat → va_W
  | 0 => []
  | n + 1 => wPool cI bb r n ++ wD cI (bb n) (r n)
noncomputable abbrev rgP (bb : Nat → Nat → Nat) : Nat → Option Nat := fun k => some (bb k 0)
noncomputable abbrev slP (bb : Nat → Nat → Nat) : Nat → Option Nat := fun k => some (bb (40 + k) 0)
theorem wPool_congr {cI : ClassId} {bb : Nat → Nat → Nat} {r r' : Nat → SD} : ∀ {n : Nat}, (∀ i, i < n → r i = r' i) → wPool cI bb r n = wPool cI bb r' n := by
  intro n
  induction n with
  | zero => intro _; rfl
  | succ n ih =>
    intro h
    unfold wPool
    rw [ih (fun i hi => h i (by omega)), h n (by omega)]
theorem pool_at {cI : ClassId} {bb : Nat → Nat → Nat} {r : Nat → SD} {k : Nat} : ∀ {n : Nat}, k < n → ∃ pre suf : va_W, wPool cI bb r n = pre ++ wD cI (bb k) (r k) ++ suf ∧ ∀ x : SD, wPool cI bb (va_up r k x) n = pre ++ wD cI (bb k) x ++ suf := by
  intro n
  induction n with
  | zero => intro h; omega
  | succ n ih =>
    intro h
    by_cases hk : k = n
    · subst hk
      refine ⟨wPool cI bb r k, [], by rw [List.append_nil]; rfl, fun x => ?_⟩
      rw [List.append_nil]
      show wPool cI bb (va_up r k x) k ++ wD cI (bb k) (va_up r k x k) = _
      rw [wPool_congr (r' := r) (fun i hi => va_up_ne r x (by omega)), va_up_self]
    · obtain ⟨pre, suf, h1, h2⟩ := ih (by omega)
      refine ⟨pre, suf ++ wD cI (bb n) (r n), ?_, fun x => ?_⟩
      · show wPool cI bb r n ++ wD cI (bb n) (r n) = _
        rw [h1, List.append_assoc]
      · show wPool cI bb (va_up r k x) n ++ wD cI (bb n) (va_up r k x n) = _
        rw [h2 x, List.append_assoc, va_up_ne r x (by omega)]
theorem pool_outP {D : va_G} {cl : List vw_C} {X P pre S suf : va_W} {H : Heap} (h : P = pre ++ S ++ suf) (hP : va_P D cl (X ++ P) H) : va_P D cl ((X ++ S) ++ (pre ++ suf)) H := by
  subst h
  have h1 : va_P D cl ((X ++ pre) ++ (S ++ suf)) H := by rw [List.append_assoc, ← List.append_assoc pre]; exact hP
  have h2 := h1.swap
  have h3 : va_P D cl (((X ++ S) ++ suf) ++ pre) H := by rw [List.append_assoc X]; exact h2
  have h4 := h3.swap
  rw [← List.append_assoc]; exact h4
theorem pool_outD {A : Nat → Prop} {X P pre S suf : va_W} (h : P = pre ++ S ++ suf) (hP : va_D A (X ++ P)) : va_D A ((X ++ S) ++ (pre ++ suf)) := by
  subst h
  have h1 : va_D A ((X ++ pre) ++ (S ++ suf)) := by rw [List.append_assoc, ← List.append_assoc pre]; exact hP
  have h2 := h1.swap
  have h3 : va_D A (((X ++ S) ++ suf) ++ pre) := by rw [List.append_assoc X]; exact h2
  have h4 := h3.swap
  rw [← List.append_assoc]; exact h4
theorem pool_inP {D : va_G} {cl : List vw_C} {X P pre S suf : va_W} {H : Heap} (h : P = pre ++ S ++ suf) (hP : va_P D cl ((X ++ S) ++ (pre ++ suf)) H) : va_P D cl (X ++ P) H := by
  subst h
  have h4 : va_P D cl (((X ++ S) ++ pre) ++ suf) H := by rw [List.append_assoc (X ++ S)]; exact hP
  have h3 := h4.swap
  have h2 : va_P D cl ((X ++ (S ++ suf)) ++ pre) H := by rw [← List.append_assoc X]; exact h3
  have h1 := h2.swap
  rw [List.append_assoc, ← List.append_assoc pre] at h1; exact h1
theorem pool_inD {A : Nat → Prop} {X P pre S suf : va_W} (h : P = pre ++ S ++ suf) (hP : va_D A ((X ++ S) ++ (pre ++ suf))) : va_D A (X ++ P) := by
  subst h
  have h4 : va_D A (((X ++ S) ++ pre) ++ suf) := by rw [List.append_assoc (X ++ S)]; exact hP
  have h3 := h4.swap
  have h2 : va_D A ((X ++ (S ++ suf)) ++ pre) := by rw [← List.append_assoc X]; exact h3
  have h1 := h2.swap
  rw [List.append_assoc, ← List.append_assoc pre] at h1; exact h1
noncomputable abbrev PS : Type := GS × SD × (Nat → SD)
noncomputable def PS.mk (g : GS) (n : SD) (r : Nat → SD) : PS := (g, n, r)
noncomputable def PS.g (s : PS) : GS := s.1
noncomputable def PS.n (s : PS) : SD := s.2.1
noncomputable def PS.r (s : PS) : Nat → SD := s.2.2
noncomputable def PS.gsv (s : PS) (k : Nat) (x : Int32) : PS := PS.mk (s.g.sv k x) s.n s.r
noncomputable def PS.gsf (s : PS) (k i : Nat) (x : Int32) : PS := PS.mk (s.g.sf k i x) s.n s.r
noncomputable abbrev YS : Type := XS × (Nat → SD)
noncomputable def YS.mk (x : XS) (r : Nat → SD) : YS := (x, r)
noncomputable def YS.x (s : YS) : XS := s.1
noncomputable def YS.r (s : YS) : Nat → SD := s.2
noncomputable def YS.nsf (s : YS) (k i : Nat) (x : Int32) : YS := YS.mk (s.x.nsf k i x) s.r
noncomputable abbrev wR (cI cZ cS : ClassId) (a b b2 c0 : Nat → Nat) (bb : Nat → Nat → Nat) (s : PS) : va_W := (wG cZ cS a b b2 c0 (rgP bb) (slP bb) s.g ++ wD cI b s.n) ++ wPool cI bb s.r 43
noncomputable abbrev wY (cB cI cJ cZ cS : ClassId) (a b b2 c0 : Nat → Nat) (bb : Nat → Nat → Nat) (s : YS) : va_W := wX cB cI cJ cZ cS a b b2 c0 (rgP bb) (slP bb) s.x ++ wPool cI bb s.r 43
noncomputable def kJ1_canEncode_9a6ad (x0 : Int32) : Option Int32 := (if x0 < 0 then (some 0) else (if 255 < x0 then (some 0) else (some 1)))
noncomputable def kJ1_indexOfChar_4cfef_7 (k7 : Int32 → Int32 → Int32 → Option Int32) (x3 : Int32) (x4 : Int32) (x5 : Int32) : Option Int32 := (if x3 ≤ x5 then (some (-1)) else (if vpb x5 9 then (if (sgn (Int32.toNatClampNeg x5)) = x4 then (some x5) else k7 x3 x4 (x5 + 1)) else none))
noncomputable def kJ1_indexOfChar_4cfef_7L : Nat → Int32 → Int32 → Int32 → Option Int32
  | 0, _, _, _ => none
  | n + 1, x3, x4, x5 => kJ1_indexOfChar_4cfef_7 (kJ1_indexOfChar_4cfef_7L n) x3 x4 x5
noncomputable def kJ1_indexOfChar_4cfef (x1 : Int32) (x2 : Int32) (x3 : Int32) : Option Int32 := kJ1_indexOfChar_4cfef_7L fu x3 (Int8.toInt32 (Int32.toInt8 x1)) x2
noncomputable def kJ1_indexOf_4cfef (x1 : Int32) (x2 : Int32) (x3 : Int32) : Option Int32 := (bindP (kJ1_canEncode_9a6ad x1) fun r1 => (if r1 = 0 then (some (-1)) else (if (mmax x2 0) < (mmin x3 9) then (bindP (kJ1_indexOfChar_4cfef x1 (mmax x2 0) (mmin x3 9)) fun r4 => (some r4)) else (some (-1)))))
noncomputable def kJ0_coder_7d493 : Option Int32 := (some 0)
noncomputable def kJ0_length_8abf5 : Option Int32 := (bindP kJ0_coder_7d493 fun r1 => (some 9))
noncomputable def kJ0_isLatin1_aae02 : Option Int32 := (some 1)
noncomputable def kJ0_indexOf_7cf53 (x1 : Int32) (x2 : Int32) : Option Int32 := (bindP kJ0_isLatin1_aae02 fun r1 => (bindP kJ0_length_8abf5 fun r2 => (bindP (kJ1_indexOf_4cfef x1 x2 9) fun r3 => (some r3))))
noncomputable def kJ0_indexOf_0f7a4 (x1 : Int32) : Option Int32 := (bindP (kJ0_indexOf_7cf53 x1 0) fun r1 => (some r1))
noncomputable def kX0_mayBe (s : JS) (x2 : Int32) : Option (Int32 × JS) := (if vpb x2 5 then (if ((s.d.f 0) (Int32.toNatClampNeg x2)) = (-1) then (if vpb x2 5 then (if vpb x2 5 then (some ((((s.k.f 5) (Int32.toNatClampNeg x2)) &&& (((s.d.f 1) (Int32.toNatClampNeg x2)) ^^^ (-1))), s)) else none) else none) else (if vpb x2 5 then (some ((1 <<< (((s.d.f 0) (Int32.toNatClampNeg x2)) &&& 31)), s)) else none)) else none)
noncomputable def kX0_setParty (s : JS) (x2 : Int32) : Option JS := (if vpb x2 6 then (letS (s.sf 13 2 ((s.k.f 6) (Int32.toNatClampNeg x2))) fun s2 => (if vpb x2 6 then (letS (s2.sf 13 3 ((s2.k.f 7) (Int32.toNatClampNeg x2))) fun s5 => (letS (s5.sf 13 6 x2) fun s7 => (if vpb x2 6 then (letS (s7.sf 13 8 ((s7.d.f 4) (Int32.toNatClampNeg x2))) fun s10 => (some s10)) else none))) else none)) else none)
noncomputable def kX1_copyFrom (s : KS) : Option KS := (letS (s.sa 9 (va_cpy (s.f 22) (s.f 9) 0 0 404)) fun s1 => (letS (s1.sa 10 (va_cpy (s1.f 23) (s1.f 10) 0 0 52)) fun s3 => (letS (s3.sa 11 (va_cpy (s3.f 24) (s3.f 11) 0 0 4)) fun s5 => (letS (s5.sa 12 (va_cpy (s5.f 25) (s5.f 12) 0 0 4)) fun s7 => (letS (s7.sv 5 (s7.v 12)) fun s9 => (some s9))))))
noncomputable def kX1_begin (s : KS) (x1 : Int32) : Option KS := (letS (s.sv 13 x1) fun s1 => (if vpb x1 4 then (letS (s1.sf 24 (Int32.toNatClampNeg x1) (s1.v 12)) fun s4 => (if vpb x1 4 then (letS (s4.sf 25 (Int32.toNatClampNeg x1) 0) fun s7 => (some s7)) else none)) else none))
noncomputable def kX1_endPart (s : KS) : Option KS := (if vpb (s.v 13) 4 then (if 13 ≤ ((s.f 25) (Int32.toNatClampNeg (s.v 13))) then (some s) else (if vpb (((s.v 13) * 13) + ((s.f 25) (Int32.toNatClampNeg (s.v 13)))) 52 then (letS (s.sf 23 (Int32.toNatClampNeg (((s.v 13) * 13) + ((s.f 25) (Int32.toNatClampNeg (s.v 13))))) (s.v 12)) fun s4 => (if vpb (s4.v 13) 4 then (letS (s4.sf 25 (Int32.toNatClampNeg (s4.v 13)) (((s.f 25) (Int32.toNatClampNeg (s.v 13))) + 1)) fun s7 => (some s7)) else none)) else none)) else none)
noncomputable def kX1_put (s : KS) (x1 : Int32) : Option KS := (if 404 ≤ (s.v 12) then (some s) else (if vpb (s.v 12) 404 then (letS (s.sf 22 (Int32.toNatClampNeg (s.v 12)) x1) fun s3 => (letS (s3.sv 12 ((s3.v 12) + 1)) fun s5 => (some s5))) else none))
noncomputable def kX1_joined (s : KS) (x1 : Int32) (x2 : Int32) (x3 : Int32) : Option (Int32 × KS) := (if x1 = 42 then (some ((x2 * x3), s)) else (if x1 = 43 then (some ((x2 + x3), s)) else (if x1 = 44 then (if x3 = 0 then (letS (s.sv 7 1) fun s6 => (some (0, s6))) else (if ¬ x3 = 0 then (some ((x2 / x3), s)) else none)) else (if x1 = 45 then (some ((x2 - x3), s)) else (if x3 = 0 then (letS (s.sv 7 1) fun s11 => (some (0, s11))) else (if ¬ x3 = 0 then (some ((x2 / x3), s)) else none))))))
noncomputable def kX2_putOnTop_59 (s : KS) (x1 : Int32) (x2 : Int32) (x4 : Int32) : Option KS := (if vpb x4 20 then (letS (s.sf 40 (Int32.toNatClampNeg x4) x2) fun s2 => (if vpb x4 20 then (letS (s2.sf 39 (Int32.toNatClampNeg x4) x1) fun s5 => (some s5)) else none)) else none)
noncomputable def kX2_putOnTop_3 (k3 : KS → Int32 → Int32 → Int32 → Option KS) (s : KS) (x1 : Int32) (x2 : Int32) (x4 : Int32) : Option KS := (if x4 ≤ 0 then kX2_putOnTop_59 s x1 x2 x4 else (if vpb (x4 - 1) 20 then (if x2 ≤ ((s.f 40) (Int32.toNatClampNeg (x4 - 1))) then kX2_putOnTop_59 s x1 x2 x4 else (if vpb (x4 - 1) 20 then (if vpb x4 20 then (letS (s.sf 40 (Int32.toNatClampNeg x4) ((s.f 40) (Int32.toNatClampNeg (x4 - 1)))) fun s6 => (if vpb (x4 - 1) 20 then (if vpb x4 20 then (letS (s6.sf 39 (Int32.toNatClampNeg x4) ((s6.f 39) (Int32.toNatClampNeg (x4 - 1)))) fun s10 => k3 s10 x1 x2 (x4 + (-1))) else none) else none)) else none) else none)) else none))
noncomputable def kX2_putOnTop_3L : Nat → KS → Int32 → Int32 → Int32 → Option KS
  | 0, _, _, _, _ => none
  | n + 1, s, x1, x2, x4 => kX2_putOnTop_3 (kX2_putOnTop_3L n) s x1 x2 x4
noncomputable def kX2_putOnTop (s : KS) (x1 : Int32) (x2 : Int32) (x3 : Int32) : Option KS := kX2_putOnTop_3L fu s x1 x2 x3
noncomputable def kX3_forgetAll_7 (k7 : GS → Int32 → Option GS) (s : GS) (x1 : Int32) : Option GS := (if 3 ≤ x1 then (some s) else (if vpb x1 3 then (letS (s.sf 4 (Int32.toNatClampNeg x1) (vp_nar .boolean 0)) fun s3 => k7 s3 (x1 + 1)) else none))
noncomputable def kX3_forgetAll_7L : Nat → GS → Int32 → Option GS
  | 0, _, _ => none
  | n + 1, s, x1 => kX3_forgetAll_7 (kX3_forgetAll_7L n) s x1
noncomputable def kX3_forgetAll (s : GS) : Option GS := (letS (s.sv 4 0) fun s1 => kX3_forgetAll_7L fu s1 0)
noncomputable def kX3_slotsHeld_24 (k4 : GS → Int32 → Int32 → Option (Int32 × GS)) (s : GS) (x2 : Int32) (t0 : Int32) (t1 : Int32) : Option (Int32 × GS) := k4 s (t1 + t0) (x2 + 1)
noncomputable def kX3_slotsHeld_4 (k4 : GS → Int32 → Int32 → Option (Int32 × GS)) (s : GS) (x1 : Int32) (x2 : Int32) : Option (Int32 × GS) := (if 3 ≤ x2 then (some (x1, s)) else (if vpb x2 3 then (if ((s.f 4) (Int32.toNatClampNeg x2)) = 0 then kX3_slotsHeld_24 k4 s x2 0 x1 else kX3_slotsHeld_24 k4 s x2 1 x1) else none))
noncomputable def kX3_slotsHeld_4L : Nat → GS → Int32 → Int32 → Option (Int32 × GS)
  | 0, _, _, _ => none
  | n + 1, s, x1, x2 => kX3_slotsHeld_4 (kX3_slotsHeld_4L n) s x1 x2
noncomputable def kX3_slotsHeld (s : GS) : Option (Int32 × GS) := kX3_slotsHeld_4L fu s 0 0
noncomputable def kX4_isAt (s : KS) (x1 : Int32) : Option (Int32 × KS) := (if (s.v 16) = 0 then (if vpb (s.v 15) 401 then (if ((s.f 32) (Int32.toNatClampNeg (s.v 15))) = x1 then (some (1, s)) else (some (0, s))) else none) else (some (0, s)))
noncomputable def kX4_fail (s : KS) (x1 : Int32) : Option KS := (if (s.v 16) = 0 then (letS (s.sv 16 x1) fun s2 => (if vpb (s2.v 15) 401 then (letS (s2.sv 17 ((s2.f 33) (Int32.toNatClampNeg (s2.v 15)))) fun s5 => (some s5)) else none)) else (some s))
noncomputable def kX4_failLater (s : KS) (x1 : Int32) (x2 : Int32) : Option KS := (if (s.v 18) = 0 then (letS (s.sv 18 x1) fun s2 => (letS (s2.sv 19 x2) fun s4 => (some s4))) else (some s))
noncomputable def kX4_take (s : KS) (x1 : Int32) : Option KS := (bindI (kX4_isAt s x1) fun r2 s1 => (if r2 = 0 then (bindP (kX4_fail s1 1) fun s8 => (some s8)) else (if (s1.v 15) < 400 then (letS (s1.sv 15 ((s1.v 15) + 1)) fun s5 => (some s5)) else (bindP (kX4_fail s1 2) fun s7 => (some s7)))))
noncomputable def kX4_takeInt_46 (s : KS) (x2 : Int32) : Option (Int32 × KS) := (bindP (kX4_take s 301) fun s1 => (some (x2, s1)))
noncomputable def kX4_takeInt (s : KS) (x1 : Int32) : Option (Int32 × KS) := (if vpb (s.v 15) 401 then (bindI (kX4_isAt s 301) fun r3 s2 => (if r3 = 0 then kX4_takeInt_46 s2 (Int64.toInt32 ((s.g 34) (Int32.toNatClampNeg (s.v 15)))) else (if (Int64.toInt32 ((s.g 34) (Int32.toNatClampNeg (s.v 15)))) ≤ x1 then kX4_takeInt_46 s2 (Int64.toInt32 ((s.g 34) (Int32.toNatClampNeg (s.v 15)))) else (if vpb (s2.v 15) 401 then (bindP (kX4_failLater s2 5 ((s2.f 33) (Int32.toNatClampNeg (s2.v 15)))) fun s7 => kX4_takeInt_46 s7 (Int64.toInt32 ((s.g 34) (Int32.toNatClampNeg (s.v 15))))) else none)))) else none)
noncomputable def kX4_readWave_100 (s : KS) : Option KS := (bindP (kX4_take s 59) fun s1 => (letS (s1.sv 8 ((s1.v 8) + 1)) fun s2 => (some s2)))
noncomputable def kX4_readWave_30 (k30 : KS → Int32 → Int32 → Int32 → Option KS) (s : KS) (x1 : Int32) (x2 : Int32) (x3 : Int32) : Option KS := (if 6 ≤ x3 then (if x1 = 0 then (bindP (kX4_failLater s 5 x2) fun s3 => kX4_readWave_100 s3) else kX4_readWave_100 s) else (if vpb (s.v 15) 401 then (bindI (kX4_takeInt s 9) fun r6 s5 => (if vpb (((s5.v 8) * 6) + x3) 30 then (letS (s5.sf 16 (Int32.toNatClampNeg (((s5.v 8) * 6) + x3)) r6) fun s8 => k30 s8 (x1 + r6) ((s.f 33) (Int32.toNatClampNeg (s.v 15))) (x3 + 1)) else none)) else none))
noncomputable def kX4_readWave_30L : Nat → KS → Int32 → Int32 → Int32 → Option KS
  | 0, _, _, _, _ => none
  | n + 1, s, x1, x2, x3 => kX4_readWave_30 (kX4_readWave_30L n) s x1 x2 x3
noncomputable def kX4_readWave (s : KS) : Option KS := (if (s.v 8) < 5 then (bindP (kX4_take s 256) fun s2 => kX4_readWave_30L fu s2 0 (-1) 0) else (bindP (kX4_fail s 2) fun s3 => (some s3)))
noncomputable def kX4_isTold_2 (k2 : KS → Int64 → Int32 → Option (Int32 × KS)) (s : KS) (x1 : Int64) (x3 : Int32) : Option (Int32 × KS) := (if (s.v 9) ≤ x3 then (some (0, s)) else (if vpb x3 6 then (if (lg_cmp ((s.g 29) (Int32.toNatClampNeg x3)) x1) = 0 then (some (1, s)) else k2 s x1 (x3 + 1)) else none))
noncomputable def kX4_isTold_2L : Nat → KS → Int64 → Int32 → Option (Int32 × KS)
  | 0, _, _, _ => none
  | n + 1, s, x1, x3 => kX4_isTold_2 (kX4_isTold_2L n) s x1 x3
noncomputable def kX4_isTold (s : KS) (x1 : Int64) : Option (Int32 × KS) := kX4_isTold_2L fu s x1 0
noncomputable def kX5_copyFrom (s : KS) : Option KS := (letS (s.sa 3 (va_cpy (s.f 16) (s.f 3) 0 0 30)) fun s1 => (letS (s1.sa 4 (va_cpy (s1.f 17) (s1.f 4) 0 0 5)) fun s3 => (letS (s3.sa 5 (va_cpy (s3.f 18) (s3.f 5) 0 0 5)) fun s5 => (letS (s5.sa 6 (va_cpy (s5.f 19) (s5.f 6) 0 0 6)) fun s7 => (letS (s7.sa 7 (va_cpy (s7.f 20) (s7.f 7) 0 0 6)) fun s9 => (bindP (kX1_copyFrom s9) fun s11 => (letS (s11.sv 1 (s11.v 8)) fun s12 => (letS (s12.sv 2 (s12.v 9)) fun s14 => (letS (s14.sv 3 (s14.v 10)) fun s16 => (letS (s16.sv 4 (s16.v 11)) fun s18 => (some s18)))))))))))
noncomputable def kX5_hasWave (s : KS) (x1 : Int32) : Option (Int32 × KS) := (if x1 < 0 then (some (0, s)) else (if (s.v 1) ≤ x1 then (some (0, s)) else (some (1, s))))
noncomputable def kX5_hasParty (s : KS) (x1 : Int32) : Option (Int32 × KS) := (if x1 < 0 then (some (0, s)) else (if (s.v 2) ≤ x1 then (some (0, s)) else (some (1, s))))
noncomputable def kX5_hasGuess (s : KS) (x1 : Int32) : Option (Int32 × KS) := (if x1 < 0 then (some (0, s)) else (if (s.v 3) ≤ x1 then (some (0, s)) else (some (1, s))))
noncomputable def kX5_oddsAt (s : KS) (x1 : Int32) (x2 : Int32) : Option (Int32 × KS) := (if vpb ((x1 * 6) + x2) 30 then (some (((s.f 3) (Int32.toNatClampNeg ((x1 * 6) + x2))), s)) else none)
noncomputable def kX5_oddsAt_d (s : KS) (x1 : Int32) (x2 : Int32) : Option (Int32 × KS) := (if vpb ((x1 * 6) + x2) 30 then (some (((s.f 16) (Int32.toNatClampNeg ((x1 * 6) + x2))), s)) else none)
noncomputable def kX6_copyFrom (s : DS) : Option DS := (letS (s.dsa 0 (va_cpy (s.e.f 0) (s.d.f 0) 0 0 5)) fun s1 => (letS (s1.dsa 1 (va_cpy (s1.e.f 1) (s1.d.f 1) 0 0 5)) fun s3 => (letS (s3.dsa 2 (va_cpy (s3.e.f 2) (s3.d.f 2) 0 0 5)) fun s5 => (letS (s5.dsa 3 (va_cpy (s5.e.f 3) (s5.d.f 3) 0 0 6)) fun s7 => (letS (s7.dsa 4 (va_cpy (s7.e.f 4) (s7.d.f 4) 0 0 6)) fun s9 => (letS (s9.dsv 5 (s9.e.v 5)) fun s11 => (letS (s11.dsv 6 (s11.e.v 6)) fun s13 => (some s13))))))))
noncomputable def kX7_hasRoomFor (s : KS) (x1 : Int32) : Option (Int32 × KS) := (if (2000 - (s.v 0)) < x1 then (some (0, s)) else (some (1, s)))
noncomputable def kX7_addFour_42 (k3 : KS → Int32 → Int32 → Option KS) (s : KS) (x1 : Int32) (x2 : Int32) : Option KS := k3 s x1 (x2 + (-8))
noncomputable def kX7_addFour_3 (k3 : KS → Int32 → Int32 → Option KS) (s : KS) (x1 : Int32) (x2 : Int32) : Option KS := (if x2 < 0 then (some s) else (if 2000 ≤ (s.v 0) then kX7_addFour_42 k3 s x1 x2 else (if vpb (s.v 0) 2000 then (letS (s.sf 1 (Int32.toNatClampNeg (s.v 0)) (vp_nar .byte (Int8.toInt32 (Int32.toInt8 (ushr x1 x2))))) fun s4 => (letS (s4.sv 0 ((s4.v 0) + 1)) fun s6 => kX7_addFour_42 k3 s6 x1 x2)) else none)))
noncomputable def kX7_addFour_3L : Nat → KS → Int32 → Int32 → Option KS
  | 0, _, _, _ => none
  | n + 1, s, x1, x2 => kX7_addFour_3 (kX7_addFour_3L n) s x1 x2
noncomputable def kX7_addFour (s : KS) (x1 : Int32) : Option KS := kX7_addFour_3L fu s x1 24
noncomputable def kX7_byteAt (s : KS) (x1 : Int32) : Option (Int32 × KS) := (if x1 < 0 then (some ((-1), s)) else (if (s.v 0) ≤ x1 then (some ((-1), s)) else (if vpb x1 2000 then (some ((((s.f 1) (Int32.toNatClampNeg x1)) &&& 255), s)) else none)))
noncomputable def kX8_add (s : KS) (x1 : Int32) (x2 : Int32) : Option (Int32 × KS) := (if (s.v 21) < 20 then (if vpb (s.v 21) 20 then (letS (s.sf 42 (Int32.toNatClampNeg (s.v 21)) x1) fun s3 => (if vpb (s3.v 21) 20 then (letS (s3.sf 43 (Int32.toNatClampNeg (s3.v 21)) x2) fun s6 => (letS (s6.sv 21 ((s6.v 21) + 1)) fun s8 => (some (((s8.v 21) - 1), s8)))) else none)) else none) else (some ((-1), s)))
noncomputable def kX8_areSuch (s : KS) (x1 : Int32) (x2 : Int32) : Option (Int32 × KS) := (if x1 < 0 then (some (0, s)) else (if (s.v 21) < x1 then (some (0, s)) else (if x2 < 0 then (some (0, s)) else (if 3 < x2 then (some (0, s)) else (some (1, s))))))
noncomputable def kX8_withWave_78 (k6 : KS → Int32 → Int32 → Int32 → Int32 → Int32 → Option (Int32 × KS)) (s : KS) (x1 : Int32) (x2 : Int32) (x3 : Int32) (x4 : Int32) (x5 : Int32) : Option (Int32 × KS) := k6 s x1 x2 x3 x4 (x5 + 1)
noncomputable def kX8_withWave_74 (k6 : KS → Int32 → Int32 → Int32 → Int32 → Int32 → Option (Int32 × KS)) (s : KS) (x1 : Int32) (x2 : Int32) (x3 : Int32) (x5 : Int32) (t0 : Int32) (t1 : Int32) (t2 : Int32) : Option (Int32 × KS) := kX8_withWave_78 k6 s x1 x2 x3 (t2 + (t1 * t0)) x5
noncomputable def kX8_withWave_6 (k6 : KS → Int32 → Int32 → Int32 → Int32 → Int32 → Option (Int32 × KS)) (s : KS) (x1 : Int32) (x2 : Int32) (x3 : Int32) (x4 : Int32) (x5 : Int32) : Option (Int32 × KS) := (if 6 ≤ x5 then (some (x4, s)) else (if vpb ((x1 * 6) + x5) 30 then (if ((s.f 44) (Int32.toNatClampNeg ((x1 * 6) + x5))) ≤ 0 then kX8_withWave_78 k6 s x1 x2 x3 x4 x5 else (if vpb ((x1 * 6) + x5) 30 then (if x2 < ((s.f 45) (Int32.toNatClampNeg ((x1 * 6) + x5))) then kX8_withWave_78 k6 s x1 x2 x3 x4 x5 else (if vpb ((x1 * 6) + x5) 30 then (if vpb (x2 - ((s.f 45) (Int32.toNatClampNeg ((x1 * 6) + x5)))) 4 then (if x3 = 0 then kX8_withWave_74 k6 s x1 x2 x3 x5 1 ((s.f 46) (Int32.toNatClampNeg (x2 - ((s.f 45) (Int32.toNatClampNeg ((x1 * 6) + x5)))))) x4 else (if vpb ((x1 * 6) + x5) 30 then kX8_withWave_74 k6 s x1 x2 x3 x5 ((s.f 44) (Int32.toNatClampNeg ((x1 * 6) + x5))) ((s.f 46) (Int32.toNatClampNeg (x2 - ((s.f 45) (Int32.toNatClampNeg ((x1 * 6) + x5)))))) x4 else none)) else none) else none)) else none)) else none))
noncomputable def kX8_withWave_6L : Nat → KS → Int32 → Int32 → Int32 → Int32 → Int32 → Option (Int32 × KS)
  | 0, _, _, _, _, _, _ => none
  | n + 1, s, x1, x2, x3, x4, x5 => kX8_withWave_6 (kX8_withWave_6L n) s x1 x2 x3 x4 x5
noncomputable def kX8_withWave (s : KS) (x1 : Int32) (x2 : Int32) (x3 : Int32) : Option (Int32 × KS) := kX8_withWave_6L fu s x1 x2 x3 0 0
noncomputable def kX8_upTo_4 (k4 : KS → Int32 → Int32 → Int32 → Option (Int32 × KS)) (s : KS) (x1 : Int32) (x2 : Int32) (x3 : Int32) : Option (Int32 × KS) := (if x1 < x3 then (some (x2, s)) else (if 3 < x3 then (some (x2, s)) else (if vpb x3 4 then k4 s x1 (x2 + ((s.f 46) (Int32.toNatClampNeg x3))) (x3 + 1) else none)))
noncomputable def kX8_upTo_4L : Nat → KS → Int32 → Int32 → Int32 → Option (Int32 × KS)
  | 0, _, _, _, _ => none
  | n + 1, s, x1, x2, x3 => kX8_upTo_4 (kX8_upTo_4L n) s x1 x2 x3
noncomputable def kX8_upTo (s : KS) (x1 : Int32) : Option (Int32 × KS) := kX8_upTo_4L fu s x1 0 0
noncomputable def kX8_fittingWith (s : KS) (x1 : Int32) (x2 : Int32) (x3 : Int32) : Option (Int32 × KS) := (if vpb ((x1 * 6) + x2) 30 then (if ((s.f 44) (Int32.toNatClampNeg ((x1 * 6) + x2))) ≤ 0 then (some (0, s)) else (if vpb ((x1 * 6) + x2) 30 then (bindI (kX8_upTo s (x3 - ((s.f 45) (Int32.toNatClampNeg ((x1 * 6) + x2))))) fun r5 s4 => (some (r5, s4))) else none)) else none)
noncomputable def kX9_isBlank (x0 : Int32) : Option Int32 := (if x0 = 9 then (some 1) else (if x0 = 10 then (some 1) else (if x0 = 13 then (some 1) else (if x0 = 32 then (some 1) else (some 0)))))
noncomputable def kX9_isLetter (x0 : Int32) : Option Int32 := (if x0 < 97 then (some 0) else (if 122 < x0 then (some 0) else (some 1)))
noncomputable def kX9_isDigit (x0 : Int32) : Option Int32 := (if x0 < 48 then (some 0) else (if 57 < x0 then (some 0) else (some 1)))
noncomputable def kX9_withLetter (x0 : Int64) (x2 : Int32) : Option Int64 := (some ((lshlf x0 5) ||| (Int32.toInt64 ((x2 - 97) + 1))))
noncomputable def kX9_skipBlanks_0 (k0 : KS → Option KS) (s : KS) : Option KS := (if (s.v 0) ≤ (s.v 20) then (some s) else (bindI (kX7_byteAt s (s.v 20)) fun r3 s2 => (bindP (kX9_isBlank r3) fun r4 => (if r4 = 0 then (some s2) else (letS (s2.sv 20 ((s2.v 20) + 1)) fun s6 => k0 s6)))))
noncomputable def kX9_skipBlanks_0L : Nat → KS → Option KS
  | 0, _ => none
  | n + 1, s => kX9_skipBlanks_0 (kX9_skipBlanks_0L n) s
noncomputable def kX9_skipBlanks (s : KS) : Option KS := kX9_skipBlanks_0L fu s
noncomputable def kX9_splitLetters_88 (k88 : KS → Int32 → Option (Int32 × KS)) (s : KS) (x2 : Int32) : Option (Int32 × KS) := (if 19 ≤ x2 then (some (300, s)) else (if vpb x2 19 then (if (lg_cmp ((s.g 31) (Int32.toNatClampNeg x2)) (s.u 0)) = 0 then (some ((256 + x2), s)) else k88 s (x2 + 1)) else none))
noncomputable def kX9_splitLetters_88L : Nat → KS → Int32 → Option (Int32 × KS)
  | 0, _, _ => none
  | n + 1, s, x2 => kX9_splitLetters_88 (kX9_splitLetters_88L n) s x2
noncomputable def kX9_splitLetters_71 (s : KS) (x1 : Int32) : Option (Int32 × KS) := (if ((s.v 20) - x1) ≤ 8 then kX9_splitLetters_88L fu s 0 else (some (303, s)))
noncomputable def kX9_splitLetters_5 (k5 : KS → Int32 → Option (Int32 × KS)) (s : KS) (x1 : Int32) : Option (Int32 × KS) := (if (s.v 0) ≤ (s.v 20) then kX9_splitLetters_71 s x1 else (bindI (kX7_byteAt s (s.v 20)) fun r3 s2 => (bindP (kX9_isLetter r3) fun r4 => (if r4 = 0 then kX9_splitLetters_71 s2 x1 else (bindI (kX7_byteAt s2 (s2.v 20)) fun r7 s6 => (bindP (kX9_withLetter (s2.u 0) r7) fun r8 => (letS (s6.su 0 r8) fun s9 => (letS (s9.sv 20 ((s9.v 20) + 1)) fun s11 => k5 s11 x1))))))))
noncomputable def kX9_splitLetters_5L : Nat → KS → Int32 → Option (Int32 × KS)
  | 0, _, _ => none
  | n + 1, s, x1 => kX9_splitLetters_5 (kX9_splitLetters_5L n) s x1
noncomputable def kX9_splitLetters (s : KS) : Option (Int32 × KS) := kX9_splitLetters_5L fu s (s.v 20)
noncomputable def kX9_splitDigits_78 (s : KS) (x1 : Int32) : Option (Int32 × KS) := (if ((s.v 20) - x1) ≤ 4 then (some (301, s)) else (some (303, s)))
noncomputable def kX9_splitDigits_5 (k5 : KS → Int32 → Option (Int32 × KS)) (s : KS) (x1 : Int32) : Option (Int32 × KS) := (if (s.v 0) ≤ (s.v 20) then kX9_splitDigits_78 s x1 else (bindI (kX7_byteAt s (s.v 20)) fun r3 s2 => (bindP (kX9_isDigit r3) fun r4 => (if r4 = 0 then kX9_splitDigits_78 s2 x1 else (bindI (kX7_byteAt s2 (s2.v 20)) fun r7 s6 => (letS (s6.su 0 ((((s2.u 0) * 10) + (Int32.toInt64 r7)) - 48)) fun s8 => (letS (s8.sv 20 ((s8.v 20) + 1)) fun s10 => k5 s10 x1)))))))
noncomputable def kX9_splitDigits_5L : Nat → KS → Int32 → Option (Int32 × KS)
  | 0, _, _ => none
  | n + 1, s, x1 => kX9_splitDigits_5 (kX9_splitDigits_5L n) s x1
noncomputable def kX9_splitDigits (s : KS) : Option (Int32 × KS) := kX9_splitDigits_5L fu s (s.v 20)
noncomputable def kX10_feed (s : XS) (x1 : Int32) (x2 : Int32) (x3 : Int32) (x4 : Int32) (x5 : Int32) : Option (Int32 × XS) := (bindI (kX7_hasRoomFor s.k 20) fun r2 s1 => (letS (XS.mk s.g s.t s.n s1) fun s3 => (if r2 = 0 then (some ((-1), s3)) else (bindP (kX7_addFour s3.k x1) fun s6 => (letS (XS.mk s3.g s3.t s3.n s6) fun s7 => (bindP (kX7_addFour s7.k x2) fun s9 => (letS (XS.mk s7.g s7.t s7.n s9) fun s10 => (bindP (kX7_addFour s10.k x3) fun s12 => (letS (XS.mk s10.g s10.t s10.n s12) fun s13 => (bindP (kX7_addFour s13.k x4) fun s15 => (letS (XS.mk s13.g s13.t s13.n s15) fun s16 => (bindP (kX7_addFour s16.k x5) fun s18 => (letS (XS.mk s16.g s16.t s16.n s18) fun s19 => (some ((s19.k.v 0), s19)))))))))))))))
noncomputable def kX10_back (s : XS) (x1 : Int32) : Option (Int32 × XS) := (if x1 < 0 then (some ((-1), s)) else (if x1 ≤ (s.k.v 0) then (letS (s.sv 0 ((s.k.v 0) - x1)) fun s3 => (some ((s3.k.v 0), s3))) else (some ((-1), s))))
noncomputable def kX10_place (s : XS) : Option (Int32 × XS) := (some ((s.k.v 17), s))
noncomputable def kX10_tell_43 (s : XS) (t0 : Int32) (t1 : Int32) : Option (Int32 × XS) := (bindI (kX8_add s.k t1 t0) fun r2 s1 => (letS (XS.mk s.g s.t s.n s1) fun s3 => (some (r2, s3))))
noncomputable def kX10_tell (s : XS) (x1 : Int32) (x2 : Int32) (x3 : Int32) : Option (Int32 × XS) := (bindI (kX5_hasWave s.k x1) fun r2 s1 => (letS (XS.mk s.g s.t s.n s1) fun s3 => (if r2 = 0 then (some ((-1), s3)) else (if x2 < 1 then (some ((-1), s3)) else (if x2 ≤ 63 then (if x3 = 0 then kX10_tell_43 s3 (63 &&& (x2 ^^^ (-1))) x1 else kX10_tell_43 s3 x2 x1) else (some ((-1), s3)))))))
noncomputable def kX10_forget (s : XS) : Option (Int32 × XS) := (letS (s.sv 21 0) fun s1 => (some ((s.k.v 21), s1)))
noncomputable def kX10_isHere (s : XS) (x1 : Int32) : Option (Int32 × XS) := (bindI (kX5_hasParty s.k x1) fun r2 s1 => (letS (XS.mk s.g s.t s.n s1) fun s3 => (if r2 = 0 then (some (0, s3)) else (if vpb x1 6 then (if ((s3.n.f 3) (Int32.toNatClampNeg x1)) = 0 then (some (1, s3)) else (some (0, s3))) else none))))
noncomputable def kX10_partiesThatAre_35 (k5 : XS → Int32 → Int32 → Int32 → Option (Int32 × XS)) (s : XS) (x2 : Int32) (x3 : Int32) (x4 : Int32) : Option (Int32 × XS) := k5 s x2 x3 (x4 + 1)
noncomputable def kX10_partiesThatAre_5 (k5 : XS → Int32 → Int32 → Int32 → Option (Int32 × XS)) (s : XS) (x2 : Int32) (x3 : Int32) (x4 : Int32) : Option (Int32 × XS) := (if (s.k.v 2) ≤ x4 then (some (x3, s)) else (if vpb x4 6 then (if ((s.n.f 3) (Int32.toNatClampNeg x4)) = x2 then kX10_partiesThatAre_35 k5 s x2 (x3 ||| (1 <<< (x4 &&& 31))) x4 else kX10_partiesThatAre_35 k5 s x2 x3 x4) else none))
noncomputable def kX10_partiesThatAre_5L : Nat → XS → Int32 → Int32 → Int32 → Option (Int32 × XS)
  | 0, _, _, _, _ => none
  | n + 1, s, x2, x3, x4 => kX10_partiesThatAre_5 (kX10_partiesThatAre_5L n) s x2 x3 x4
noncomputable def kX10_partiesThatAre (s : XS) (x2 : Int32) : Option (Int32 × XS) := kX10_partiesThatAre_5L fu s x2 0 0
noncomputable def kX10_partiesThatAre_t_35 (k5 : XS → Int32 → Int32 → Int32 → Option (Int32 × XS)) (s : XS) (x2 : Int32) (x3 : Int32) (x4 : Int32) : Option (Int32 × XS) := k5 s x2 x3 (x4 + 1)
noncomputable def kX10_partiesThatAre_t_5 (k5 : XS → Int32 → Int32 → Int32 → Option (Int32 × XS)) (s : XS) (x2 : Int32) (x3 : Int32) (x4 : Int32) : Option (Int32 × XS) := (if (s.k.v 2) ≤ x4 then (some (x3, s)) else (if vpb x4 6 then (if ((s.t.f 3) (Int32.toNatClampNeg x4)) = x2 then kX10_partiesThatAre_t_35 k5 s x2 (x3 ||| (1 <<< (x4 &&& 31))) x4 else kX10_partiesThatAre_t_35 k5 s x2 x3 x4) else none))
noncomputable def kX10_partiesThatAre_t_5L : Nat → XS → Int32 → Int32 → Int32 → Option (Int32 × XS)
  | 0, _, _, _, _ => none
  | n + 1, s, x2, x3, x4 => kX10_partiesThatAre_t_5 (kX10_partiesThatAre_t_5L n) s x2 x3 x4
noncomputable def kX10_partiesThatAre_t (s : XS) (x2 : Int32) : Option (Int32 × XS) := kX10_partiesThatAre_t_5L fu s x2 0 0
noncomputable def kX10_wavesFound_34 (k4 : XS → Int32 → Int32 → Option (Int32 × XS)) (s : XS) (x1 : Int32) (x2 : Int32) : Option (Int32 × XS) := k4 s x1 (x2 + 1)
noncomputable def kX10_wavesFound_4 (k4 : XS → Int32 → Int32 → Option (Int32 × XS)) (s : XS) (x1 : Int32) (x2 : Int32) : Option (Int32 × XS) := (if (s.k.v 1) ≤ x2 then (some (x1, s)) else (if vpb x2 5 then (if ((s.n.f 0) (Int32.toNatClampNeg x2)) = (-1) then kX10_wavesFound_34 k4 s x1 x2 else kX10_wavesFound_34 k4 s (x1 ||| (1 <<< (x2 &&& 31))) x2) else none))
noncomputable def kX10_wavesFound_4L : Nat → XS → Int32 → Int32 → Option (Int32 × XS)
  | 0, _, _, _ => none
  | n + 1, s, x1, x2 => kX10_wavesFound_4 (kX10_wavesFound_4L n) s x1 x2
noncomputable def kX10_wavesFound (s : XS) : Option (Int32 × XS) := kX10_wavesFound_4L fu s 0 0
noncomputable def kX10_wavesWithNothing_36 (k4 : XS → Int32 → Int32 → Option (Int32 × XS)) (s : XS) (x1 : Int32) (x2 : Int32) : Option (Int32 × XS) := k4 s x1 (x2 + 1)
noncomputable def kX10_wavesWithNothing_4 (k4 : XS → Int32 → Int32 → Option (Int32 × XS)) (s : XS) (x1 : Int32) (x2 : Int32) : Option (Int32 × XS) := (if (s.k.v 1) ≤ x2 then (some (x1, s)) else (bindI (kX0_mayBe (JS.mk s.k s.n) x2) fun r3 s2 => (letS (XS.mk s.g s.t s2.d s2.k) fun s4 => (if r3 = 0 then kX10_wavesWithNothing_36 k4 s4 (x1 ||| (1 <<< (x2 &&& 31))) x2 else kX10_wavesWithNothing_36 k4 s4 x1 x2))))
noncomputable def kX10_wavesWithNothing_4L : Nat → XS → Int32 → Int32 → Option (Int32 × XS)
  | 0, _, _, _ => none
  | n + 1, s, x1, x2 => kX10_wavesWithNothing_4 (kX10_wavesWithNothing_4L n) s x1 x2
noncomputable def kX10_wavesWithNothing (s : XS) : Option (Int32 × XS) := kX10_wavesWithNothing_4L fu s 0 0
noncomputable def kX10_isThing (x0 : Int32) : Option Int32 := (if x0 < 0 then (some 0) else (if 6 ≤ x0 then (some 0) else (some 1)))
noncomputable def kX10_has (x0 : Int32) (x1 : Int32) : Option Int32 := (if ((x0 >>> (x1 &&& 31)) &&& 1) = 1 then (some 1) else (some 0))
noncomputable def kX10_sumOf_5_4 (k4 : (Nat → Int32) → Int32 → Int32 → Option (Int32 × (Nat → Int32))) (s : (Nat → Int32)) (x1 : Int32) (x2 : Int32) : Option (Int32 × (Nat → Int32)) := (if 5 ≤ x2 then (some (x1, s)) else (if vpb x2 5 then k4 s (x1 + (s (Int32.toNatClampNeg x2))) (x2 + 1) else none))
noncomputable def kX10_sumOf_5_4L : Nat → (Nat → Int32) → Int32 → Int32 → Option (Int32 × (Nat → Int32))
  | 0, _, _, _ => none
  | n + 1, s, x1, x2 => kX10_sumOf_5_4 (kX10_sumOf_5_4L n) s x1 x2
noncomputable def kX10_sumOf_5 (s : (Nat → Int32)) : Option (Int32 × (Nat → Int32)) := kX10_sumOf_5_4L fu s 0 0
noncomputable def kX10_sumOf_6_4 (k4 : (Nat → Int32) → Int32 → Int32 → Option (Int32 × (Nat → Int32))) (s : (Nat → Int32)) (x1 : Int32) (x2 : Int32) : Option (Int32 × (Nat → Int32)) := (if 6 ≤ x2 then (some (x1, s)) else (if vpb x2 6 then k4 s (x1 + (s (Int32.toNatClampNeg x2))) (x2 + 1) else none))
noncomputable def kX10_sumOf_6_4L : Nat → (Nat → Int32) → Int32 → Int32 → Option (Int32 × (Nat → Int32))
  | 0, _, _, _ => none
  | n + 1, s, x1, x2 => kX10_sumOf_6_4 (kX10_sumOf_6_4L n) s x1 x2
noncomputable def kX10_sumOf_6 (s : (Nat → Int32)) : Option (Int32 × (Nat → Int32)) := kX10_sumOf_6_4L fu s 0 0
noncomputable def kX10_thingIn_4 (k4 : Int32 → Int32 → Int32 → Option Int32) (x1 : Int32) (x2 : Int32) (x3 : Int32) : Option Int32 := (if x1 ≤ x3 then (some (x2 - x2 / 6 * 6)) else k4 x1 (x2 / 6) (x3 + 1))
noncomputable def kX10_thingIn_4L : Nat → Int32 → Int32 → Int32 → Option Int32
  | 0, _, _, _ => none
  | n + 1, x1, x2, x3 => kX10_thingIn_4 (kX10_thingIn_4L n) x1 x2 x3
noncomputable def kX10_thingIn (x0 : Int32) (x1 : Int32) : Option Int32 := kX10_thingIn_4L fu x1 x0 0
noncomputable def kX10_heldTo (x0 : Int32) (x1 : Int32) : Option Int32 := (some (mmax 0 (mmin x0 x1)))
noncomputable def kX10_stirred (x0 : Int32) (x1 : Int32) : Option Int32 := (some ((((x0 ^^^ x1) * 1103515245) + 12345) ^^^ (ushr (((x0 ^^^ x1) * 1103515245) + 12345) 15)))
noncomputable def kJ6_numberOfTrailingZeros_0f7a4_74 (x0 : Int32) (x1 : Int32) : Option Int32 := (some (x1 + (ushr x0 1)))
noncomputable def kJ6_numberOfTrailingZeros_0f7a4_62 (x0 : Int32) (x1 : Int32) : Option Int32 := (if x0 ≤ 4 then kJ6_numberOfTrailingZeros_0f7a4_74 x0 x1 else kJ6_numberOfTrailingZeros_0f7a4_74 (ushr x0 2) (x1 + 2))
noncomputable def kJ6_numberOfTrailingZeros_0f7a4_49 (x0 : Int32) (x1 : Int32) : Option Int32 := (if x0 ≤ 16 then kJ6_numberOfTrailingZeros_0f7a4_62 x0 x1 else kJ6_numberOfTrailingZeros_0f7a4_62 (ushr x0 4) (x1 + 4))
noncomputable def kJ6_numberOfTrailingZeros_0f7a4_34 (x0 : Int32) (x1 : Int32) : Option Int32 := (if x0 ≤ 256 then kJ6_numberOfTrailingZeros_0f7a4_49 x0 x1 else kJ6_numberOfTrailingZeros_0f7a4_49 (ushr x0 8) (x1 + 8))
noncomputable def kJ6_numberOfTrailingZeros_0f7a4 (x0 : Int32) : Option Int32 := (if 0 < ((x0 ^^^ (-1)) &&& (x0 - 1)) then (if ((x0 ^^^ (-1)) &&& (x0 - 1)) ≤ 65536 then kJ6_numberOfTrailingZeros_0f7a4_34 ((x0 ^^^ (-1)) &&& (x0 - 1)) 1 else kJ6_numberOfTrailingZeros_0f7a4_34 (ushr ((x0 ^^^ (-1)) &&& (x0 - 1)) 16) 17) else (some (((x0 ^^^ (-1)) &&& (x0 - 1)) &&& 32)))
noncomputable def kJ6_bitCount_0f7a4 (x0 : Int32) : Option Int32 := (some ((((((((x0 - ((ushr x0 1) &&& 1431655765)) &&& 858993459) + ((ushr (x0 - ((ushr x0 1) &&& 1431655765)) 2) &&& 858993459)) + (ushr (((x0 - ((ushr x0 1) &&& 1431655765)) &&& 858993459) + ((ushr (x0 - ((ushr x0 1) &&& 1431655765)) 2) &&& 858993459)) 4)) &&& 252645135) + (ushr (((((x0 - ((ushr x0 1) &&& 1431655765)) &&& 858993459) + ((ushr (x0 - ((ushr x0 1) &&& 1431655765)) 2) &&& 858993459)) + (ushr (((x0 - ((ushr x0 1) &&& 1431655765)) &&& 858993459) + ((ushr (x0 - ((ushr x0 1) &&& 1431655765)) 2) &&& 858993459)) 4)) &&& 252645135) 8)) + (ushr ((((((x0 - ((ushr x0 1) &&& 1431655765)) &&& 858993459) + ((ushr (x0 - ((ushr x0 1) &&& 1431655765)) 2) &&& 858993459)) + (ushr (((x0 - ((ushr x0 1) &&& 1431655765)) &&& 858993459) + ((ushr (x0 - ((ushr x0 1) &&& 1431655765)) 2) &&& 858993459)) 4)) &&& 252645135) + (ushr (((((x0 - ((ushr x0 1) &&& 1431655765)) &&& 858993459) + ((ushr (x0 - ((ushr x0 1) &&& 1431655765)) 2) &&& 858993459)) + (ushr (((x0 - ((ushr x0 1) &&& 1431655765)) &&& 858993459) + ((ushr (x0 - ((ushr x0 1) &&& 1431655765)) 2) &&& 858993459)) 4)) &&& 252645135) 8)) 16)) &&& 63))
noncomputable def kJ7_fill_53178_4_5 (k5 : (Nat → Int32) → Int32 → Int32 → Int32 → Option (Nat → Int32)) (s : (Nat → Int32)) (x1 : Int32) (x2 : Int32) (x3 : Int32) : Option (Nat → Int32) := (if x3 ≤ x2 then (some s) else (if vpb x2 4 then (letS (upd s (Int32.toNatClampNeg x2) x1) fun s3 => k5 s3 x1 (x2 + 1) x3) else none))
noncomputable def kJ7_fill_53178_4_5L : Nat → (Nat → Int32) → Int32 → Int32 → Int32 → Option (Nat → Int32)
  | 0, _, _, _, _ => none
  | n + 1, s, x1, x2, x3 => kJ7_fill_53178_4_5 (kJ7_fill_53178_4_5L n) s x1 x2 x3
noncomputable def kJ7_fill_53178_4 (s : (Nat → Int32)) (x1 : Int32) : Option (Nat → Int32) := kJ7_fill_53178_4_5L fu s x1 0 4
noncomputable def kJ7_fill_53178_5_5 (k5 : (Nat → Int32) → Int32 → Int32 → Int32 → Option (Nat → Int32)) (s : (Nat → Int32)) (x1 : Int32) (x2 : Int32) (x3 : Int32) : Option (Nat → Int32) := (if x3 ≤ x2 then (some s) else (if vpb x2 5 then (letS (upd s (Int32.toNatClampNeg x2) x1) fun s3 => k5 s3 x1 (x2 + 1) x3) else none))
noncomputable def kJ7_fill_53178_5_5L : Nat → (Nat → Int32) → Int32 → Int32 → Int32 → Option (Nat → Int32)
  | 0, _, _, _, _ => none
  | n + 1, s, x1, x2, x3 => kJ7_fill_53178_5_5 (kJ7_fill_53178_5_5L n) s x1 x2 x3
noncomputable def kJ7_fill_53178_5 (s : (Nat → Int32)) (x1 : Int32) : Option (Nat → Int32) := kJ7_fill_53178_5_5L fu s x1 0 5
noncomputable def kJ7_fill_53178_6_5 (k5 : (Nat → Int32) → Int32 → Int32 → Int32 → Option (Nat → Int32)) (s : (Nat → Int32)) (x1 : Int32) (x2 : Int32) (x3 : Int32) : Option (Nat → Int32) := (if x3 ≤ x2 then (some s) else (if vpb x2 6 then (letS (upd s (Int32.toNatClampNeg x2) x1) fun s3 => k5 s3 x1 (x2 + 1) x3) else none))
noncomputable def kJ7_fill_53178_6_5L : Nat → (Nat → Int32) → Int32 → Int32 → Int32 → Option (Nat → Int32)
  | 0, _, _, _, _ => none
  | n + 1, s, x1, x2, x3 => kJ7_fill_53178_6_5 (kJ7_fill_53178_6_5L n) s x1 x2 x3
noncomputable def kJ7_fill_53178_6 (s : (Nat → Int32)) (x1 : Int32) : Option (Nat → Int32) := kJ7_fill_53178_6_5L fu s x1 0 6
noncomputable def kJ7_fill_53178_9_5 (k5 : (Nat → Int32) → Int32 → Int32 → Int32 → Option (Nat → Int32)) (s : (Nat → Int32)) (x1 : Int32) (x2 : Int32) (x3 : Int32) : Option (Nat → Int32) := (if x3 ≤ x2 then (some s) else (if vpb x2 9 then (letS (upd s (Int32.toNatClampNeg x2) x1) fun s3 => k5 s3 x1 (x2 + 1) x3) else none))
noncomputable def kJ7_fill_53178_9_5L : Nat → (Nat → Int32) → Int32 → Int32 → Int32 → Option (Nat → Int32)
  | 0, _, _, _, _ => none
  | n + 1, s, x1, x2, x3 => kJ7_fill_53178_9_5 (kJ7_fill_53178_9_5L n) s x1 x2 x3
noncomputable def kJ7_fill_53178_9 (s : (Nat → Int32)) (x1 : Int32) : Option (Nat → Int32) := kJ7_fill_53178_9_5L fu s x1 0 9
noncomputable def kJ7_fill_53178_20_5 (k5 : (Nat → Int32) → Int32 → Int32 → Int32 → Option (Nat → Int32)) (s : (Nat → Int32)) (x1 : Int32) (x2 : Int32) (x3 : Int32) : Option (Nat → Int32) := (if x3 ≤ x2 then (some s) else (if vpb x2 20 then (letS (upd s (Int32.toNatClampNeg x2) x1) fun s3 => k5 s3 x1 (x2 + 1) x3) else none))
noncomputable def kJ7_fill_53178_20_5L : Nat → (Nat → Int32) → Int32 → Int32 → Int32 → Option (Nat → Int32)
  | 0, _, _, _, _ => none
  | n + 1, s, x1, x2, x3 => kJ7_fill_53178_20_5 (kJ7_fill_53178_20_5L n) s x1 x2 x3
noncomputable def kJ7_fill_53178_20 (s : (Nat → Int32)) (x1 : Int32) : Option (Nat → Int32) := kJ7_fill_53178_20_5L fu s x1 0 20
noncomputable def kX0_clearVars (s : JS) : Option JS := (bindP (kJ7_fill_53178_9 (s.k.f 13) 0) fun s1 => (letS (s.sa 13 s1) fun s2 => (letS (s2.sf 13 5 (s2.d.v 5)) fun s4 => (some s4))))
noncomputable def kX0_setWave (s : JS) (x2 : Int32) : Option JS := (letS (s.sf 13 0 x2) fun s1 => (bindI (kX0_mayBe s1 x2) fun r4 s3 => (bindP (kJ6_bitCount_0f7a4 r4) fun r5 => (letS (s3.sf 13 4 r5) fun s6 => (if vpb x2 5 then (bindP (kJ6_bitCount_0f7a4 ((s6.d.f 1) (Int32.toNatClampNeg x2))) fun r9 => (letS (s6.sf 13 7 r9) fun s10 => (some s10))) else none)))))
noncomputable def kX1_putNumber (s : KS) (x1 : Int32) : Option KS := (bindP (kX1_put s x1) fun s1 => (some s1))
noncomputable def kX1_putVar (s : KS) (x1 : Int32) : Option KS := (bindP (kX1_put s ((-1) - x1)) fun s1 => (some s1))
noncomputable def kX1_putSign (s : KS) (x1 : Int32) : Option KS := (bindP (kX1_put s (-x1)) fun s1 => (some s1))
noncomputable def kX1_partValue_156 (k53 : KS → Int32 → Int32 → Int32 → Option (Int32 × KS)) (s : KS) (x4 : Int32) (x5 : Int32) (x6 : Int32) : Option (Int32 × KS) := k53 s x4 x5 (x6 + 1)
noncomputable def kX1_partValue_115 (k53 : KS → Int32 → Int32 → Int32 → Option (Int32 × KS)) (s : KS) (x4 : Int32) (x5 : Int32) (x6 : Int32) (x7 : Int32) : Option (Int32 × KS) := (if x5 < 2 then kX1_partValue_156 k53 s x4 x5 x6 else (if vpb ((x5 + (-1)) - 1) 16 then (if vpb (x5 + (-1)) 16 then (bindI (kX1_joined s (-x7) ((s.f 14) (Int32.toNatClampNeg ((x5 + (-1)) - 1))) ((s.f 14) (Int32.toNatClampNeg (x5 + (-1))))) fun r5 s4 => (if vpb ((x5 + (-1)) - 1) 16 then (letS (s4.sf 14 (Int32.toNatClampNeg ((x5 + (-1)) - 1)) r5) fun s7 => kX1_partValue_156 k53 s7 x4 (x5 + (-1)) x6) else none)) else none) else none))
noncomputable def kX1_partValue_108 (k53 : KS → Int32 → Int32 → Int32 → Option (Int32 × KS)) (s : KS) (x4 : Int32) (x5 : Int32) (x6 : Int32) (t0 : Int32) (t1 : Int32) : Option (Int32 × KS) := (if vpb t1 16 then (letS (s.sf 14 (Int32.toNatClampNeg t1) t0) fun s2 => kX1_partValue_156 k53 s2 x4 (x5 + 1) x6) else none)
noncomputable def kX1_partValue_53 (k53 : KS → Int32 → Int32 → Int32 → Option (Int32 × KS)) (s : KS) (x4 : Int32) (x5 : Int32) (x6 : Int32) : Option (Int32 × KS) := (if x4 ≤ x6 then (some (((s.f 14) 0), s)) else (if vpb x6 404 then (if ((s.f 9) (Int32.toNatClampNeg x6)) < (-9) then kX1_partValue_115 k53 s x4 x5 x6 ((s.f 9) (Int32.toNatClampNeg x6)) else (if 16 ≤ x5 then kX1_partValue_115 k53 s x4 x5 x6 ((s.f 9) (Int32.toNatClampNeg x6)) else (if ((s.f 9) (Int32.toNatClampNeg x6)) < 0 then (if vpb ((-1) - ((s.f 9) (Int32.toNatClampNeg x6))) 9 then kX1_partValue_108 k53 s x4 x5 x6 ((s.f 13) (Int32.toNatClampNeg ((-1) - ((s.f 9) (Int32.toNatClampNeg x6))))) x5 else none) else kX1_partValue_108 k53 s x4 x5 x6 ((s.f 9) (Int32.toNatClampNeg x6)) x5))) else none))
noncomputable def kX1_partValue_53L : Nat → KS → Int32 → Int32 → Int32 → Option (Int32 × KS)
  | 0, _, _, _, _ => none
  | n + 1, s, x4, x5, x6 => kX1_partValue_53 (kX1_partValue_53L n) s x4 x5 x6
noncomputable def kX1_partValue_51 (s : KS) (x4 : Int32) (x5 : Int32) (t0 : Int32) : Option (Int32 × KS) := kX1_partValue_53L fu s x4 x5 t0
noncomputable def kX1_partValue (s : KS) (x1 : Int32) (x2 : Int32) : Option (Int32 × KS) := (if x2 < 0 then (some (0, s)) else (if x2 < 13 then (if vpb ((x1 * 13) + x2) 52 then (if x2 = 0 then (if vpb x1 4 then kX1_partValue_51 s ((s.f 10) (Int32.toNatClampNeg ((x1 * 13) + x2))) 0 ((s.f 11) (Int32.toNatClampNeg x1)) else none) else (if vpb (((x1 * 13) + x2) - 1) 52 then kX1_partValue_51 s ((s.f 10) (Int32.toNatClampNeg ((x1 * 13) + x2))) 0 ((s.f 10) (Int32.toNatClampNeg (((x1 * 13) + x2) - 1))) else none)) else none) else (some (0, s))))
noncomputable def kX2_mayCount (s : JS) (x2 : Int32) : Option (Int32 × JS) := (bindI (kX0_mayBe s x2) fun r2 s1 => (bindP (kJ6_bitCount_0f7a4 r2) fun r3 => (some (r3, s1))))
noncomputable def kX2_caseCount_4 (k4 : JS → Int32 → Int32 → Option (Int32 × JS)) (s : JS) (x2 : Int32) (x3 : Int32) : Option (Int32 × JS) := (if (s.k.v 1) ≤ x3 then (some (x2, s)) else (bindI (kX2_mayCount s x3) fun r3 s2 => k4 s2 (x2 * r3) (x3 + 1)))
noncomputable def kX2_caseCount_4L : Nat → JS → Int32 → Int32 → Option (Int32 × JS)
  | 0, _, _, _ => none
  | n + 1, s, x2, x3 => kX2_caseCount_4 (kX2_caseCount_4L n) s x2 x3
noncomputable def kX2_caseCount (s : JS) : Option (Int32 × JS) := kX2_caseCount_4L fu s 1 0
noncomputable def kX2_oddsIfMay (s : JS) (x2 : Int32) (x3 : Int32) : Option (Int32 × JS) := (bindI (kX0_mayBe s x2) fun r2 s1 => (bindP (kX10_has r2 x3) fun r3 => (if r3 = 0 then (some (0, s1)) else (bindI (kX5_oddsAt s1.k x2 x3) fun r6 s5 => (letS (JS.mk s5 s1.d) fun s7 => (some (r6, s7)))))))
noncomputable def kX2_oddsOf_5 (k5 : JS → Int32 → Int32 → Int32 → Option (Int32 × JS)) (s : JS) (x2 : Int32) (x3 : Int32) (x4 : Int32) : Option (Int32 × JS) := (if (s.k.v 1) ≤ x4 then (some (x3, s)) else (bindP (kX10_thingIn x2 x4) fun r2 => (bindI (kX2_oddsIfMay s x4 r2) fun r4 s3 => k5 s3 x2 (x3 * r4) (x4 + 1))))
noncomputable def kX2_oddsOf_5L : Nat → JS → Int32 → Int32 → Int32 → Option (Int32 × JS)
  | 0, _, _, _, _ => none
  | n + 1, s, x2, x3, x4 => kX2_oddsOf_5 (kX2_oddsOf_5L n) s x2 x3 x4
noncomputable def kX2_oddsOf (s : JS) (x2 : Int32) : Option (Int32 × JS) := kX2_oddsOf_5L fu s x2 1 0
noncomputable def kX2_goesAtMost_4 (k4 : JS → Int32 → Int32 → Option (Int32 × JS)) (s : JS) (x2 : Int32) (x3 : Int32) : Option (Int32 × JS) := (if (s.k.v 1) ≤ x3 then (some (x2, s)) else (bindI (kX2_mayCount s x3) fun r3 s2 => k4 s2 (x2 + (r3 - 1)) (x3 + 1)))
noncomputable def kX2_goesAtMost_4L : Nat → JS → Int32 → Int32 → Option (Int32 × JS)
  | 0, _, _, _ => none
  | n + 1, s, x2, x3 => kX2_goesAtMost_4 (kX2_goesAtMost_4L n) s x2 x3
noncomputable def kX2_goesAtMost (s : JS) : Option (Int32 × JS) := kX2_goesAtMost_4L fu s 1 0
noncomputable def kX2_leftBehind_73 (k16 : JS → Int32 → Int32 → Int32 → Int32 → Option (Int32 × JS)) (s : JS) (x2 : Int32) (x3 : Int32) (x4 : Int32) (x5 : Int32) (x6 : Int32) : Option (Int32 × JS) := k16 s x2 x3 (x4 * x6) (x5 + (-1))
noncomputable def kX2_leftBehind_16 (k16 : JS → Int32 → Int32 → Int32 → Int32 → Option (Int32 × JS)) (s : JS) (x2 : Int32) (x3 : Int32) (x4 : Int32) (x5 : Int32) : Option (Int32 × JS) := (if x5 < 0 then (some (x3, s)) else (bindI (kX2_mayCount s x5) fun r3 s2 => (bindI (kX0_mayBe s2 x5) fun r5 s4 => (bindP (kX10_thingIn x2 x5) fun r6 => (bindP (kX10_has r5 r6) fun r7 => (if r7 = 0 then kX2_leftBehind_73 k16 s4 x2 (r3 * x4) x4 x5 r3 else kX2_leftBehind_73 k16 s4 x2 (mmax x3 ((r3 - 1) * x4)) x4 x5 r3))))))
noncomputable def kX2_leftBehind_16L : Nat → JS → Int32 → Int32 → Int32 → Int32 → Option (Int32 × JS)
  | 0, _, _, _, _, _ => none
  | n + 1, s, x2, x3, x4, x5 => kX2_leftBehind_16 (kX2_leftBehind_16L n) s x2 x3 x4 x5
noncomputable def kX2_leftBehind (s : JS) (x2 : Int32) : Option (Int32 × JS) := kX2_leftBehind_16L fu s x2 1 1 ((s.k.v 1) - 1)
noncomputable def kX2_wisestGuess_7 (k7 : JS → Int32 → Int32 → Int32 → Option (Int32 × JS)) (s : JS) (x2 : Int32) (x3 : Int32) (x4 : Int32) : Option (Int32 × JS) := (if (s.k.v 1) ≤ x4 then (some (0, s)) else (bindI (kX0_mayBe s x4) fun r3 s2 => (bindP (kJ6_numberOfTrailingZeros_0f7a4 r3) fun r4 => (bindI (kX2_mayCount s2 x4) fun r6 s5 => (if r6 ≤ 1 then k7 s5 (x2 + (x3 * r4)) (x3 * 6) (x4 + 1) else (some ((x2 + (x3 * r4)), s5)))))))
noncomputable def kX2_wisestGuess_7L : Nat → JS → Int32 → Int32 → Int32 → Option (Int32 × JS)
  | 0, _, _, _, _ => none
  | n + 1, s, x2, x3, x4 => kX2_wisestGuess_7 (kX2_wisestGuess_7L n) s x2 x3 x4
noncomputable def kX2_wisestGuess (s : JS) : Option (Int32 × JS) := kX2_wisestGuess_7L fu s 0 1 0
noncomputable def kX2_oddsApart_47 (k9 : JS → Int32 → Int32 → Int32 → Int32 → Option (Int32 × JS)) (s : JS) (x2 : Int32) (x3 : Int32) (x4 : Int32) (x5 : Int32) : Option (Int32 × JS) := k9 s x2 x3 x4 (x5 + 1)
noncomputable def kX2_oddsApart_9 (k9 : JS → Int32 → Int32 → Int32 → Int32 → Option (Int32 × JS)) (s : JS) (x2 : Int32) (x3 : Int32) (x4 : Int32) (x5 : Int32) : Option (Int32 × JS) := (if 6 ≤ x5 then (some ((mmax 0 (x4 - x3)), s)) else (bindI (kX2_oddsIfMay s x2 x5) fun r3 s2 => (if r3 ≤ 0 then kX2_oddsApart_47 k9 s2 x2 x3 x4 x5 else kX2_oddsApart_47 k9 s2 x2 (mmin x3 r3) (mmax x4 r3) x5)))
noncomputable def kX2_oddsApart_9L : Nat → JS → Int32 → Int32 → Int32 → Int32 → Option (Int32 × JS)
  | 0, _, _, _, _, _ => none
  | n + 1, s, x2, x3, x4, x5 => kX2_oddsApart_9 (kX2_oddsApart_9L n) s x2 x3 x4 x5
noncomputable def kX2_oddsApart (s : JS) (x2 : Int32) : Option (Int32 × JS) := kX2_oddsApart_9L fu s x2 9 0 0
noncomputable def kX2_fillRow_near_39 (k10 : JS → Int32 → Int32 → Int32 → Option (Int32 × JS)) (k20 : JS → Int32 → Int32 → Int32 → Int32 → Option (Int32 × JS)) (k39 : JS → Int32 → Int32 → Int32 → Int32 → Int32 → Int32 → Option (Int32 × JS)) (s : JS) (x4 : Int32) (x5 : Int32) (x6 : Int32) (x7 : Int32) (x8 : Int32) (x9 : Int32) : Option (Int32 × JS) := (if x5 ≤ x9 then k20 s x4 x5 x6 (x7 + (-1)) else (if vpb x9 216 then (if vpb ((x7 * x5) + x9) 216 then (letS (s.sf 37 (Int32.toNatClampNeg ((x7 * x5) + x9)) (((s.k.f 37) (Int32.toNatClampNeg x9)) * x8)) fun s4 => k39 s4 x4 x5 x6 x7 x8 (x9 + 1)) else none) else none))
noncomputable def kX2_fillRow_near_39L (k10 : JS → Int32 → Int32 → Int32 → Option (Int32 × JS)) (k20 : JS → Int32 → Int32 → Int32 → Int32 → Option (Int32 × JS)) : Nat → JS → Int32 → Int32 → Int32 → Int32 → Int32 → Int32 → Option (Int32 × JS)
  | 0, _, _, _, _, _, _, _ => none
  | n + 1, s, x4, x5, x6, x7, x8, x9 => kX2_fillRow_near_39 k10 k20 (kX2_fillRow_near_39L k10 k20 n) s x4 x5 x6 x7 x8 x9
noncomputable def kX2_fillRow_near_20 (k10 : JS → Int32 → Int32 → Int32 → Option (Int32 × JS)) (k20 : JS → Int32 → Int32 → Int32 → Int32 → Option (Int32 × JS)) (s : JS) (x4 : Int32) (x5 : Int32) (x6 : Int32) (x7 : Int32) : Option (Int32 × JS) := (if x7 < 0 then k10 s x4 (x5 * 6) (x6 + 1) else (bindI (kX2_oddsIfMay s x6 x7) fun r3 s2 => kX2_fillRow_near_39L k10 k20 fu s2 x4 x5 x6 x7 r3 0))
noncomputable def kX2_fillRow_near_20L (k10 : JS → Int32 → Int32 → Int32 → Option (Int32 × JS)) : Nat → JS → Int32 → Int32 → Int32 → Int32 → Option (Int32 × JS)
  | 0, _, _, _, _, _ => none
  | n + 1, s, x4, x5, x6, x7 => kX2_fillRow_near_20 k10 (kX2_fillRow_near_20L k10 n) s x4 x5 x6 x7
noncomputable def kX2_fillRow_near_10 (k10 : JS → Int32 → Int32 → Int32 → Option (Int32 × JS)) (s : JS) (x4 : Int32) (x5 : Int32) (x6 : Int32) : Option (Int32 × JS) := (if x4 ≤ x6 then (some (x5, s)) else kX2_fillRow_near_20L k10 fu s x4 x5 x6 5)
noncomputable def kX2_fillRow_near_10L : Nat → JS → Int32 → Int32 → Int32 → Option (Int32 × JS)
  | 0, _, _, _, _ => none
  | n + 1, s, x4, x5, x6 => kX2_fillRow_near_10 (kX2_fillRow_near_10L n) s x4 x5 x6
noncomputable def kX2_fillRow_near (s : JS) (x3 : Int32) (x4 : Int32) : Option (Int32 × JS) := (letS (s.sf 37 0 1) fun s1 => kX2_fillRow_near_10L fu s1 x4 1 x3)
noncomputable def kX2_fillRow_far_39 (k10 : JS → Int32 → Int32 → Int32 → Option (Int32 × JS)) (k20 : JS → Int32 → Int32 → Int32 → Int32 → Option (Int32 × JS)) (k39 : JS → Int32 → Int32 → Int32 → Int32 → Int32 → Int32 → Option (Int32 × JS)) (s : JS) (x4 : Int32) (x5 : Int32) (x6 : Int32) (x7 : Int32) (x8 : Int32) (x9 : Int32) : Option (Int32 × JS) := (if x5 ≤ x9 then k20 s x4 x5 x6 (x7 + (-1)) else (if vpb x9 36 then (if vpb ((x7 * x5) + x9) 36 then (letS (s.sf 38 (Int32.toNatClampNeg ((x7 * x5) + x9)) (((s.k.f 38) (Int32.toNatClampNeg x9)) * x8)) fun s4 => k39 s4 x4 x5 x6 x7 x8 (x9 + 1)) else none) else none))
noncomputable def kX2_fillRow_far_39L (k10 : JS → Int32 → Int32 → Int32 → Option (Int32 × JS)) (k20 : JS → Int32 → Int32 → Int32 → Int32 → Option (Int32 × JS)) : Nat → JS → Int32 → Int32 → Int32 → Int32 → Int32 → Int32 → Option (Int32 × JS)
  | 0, _, _, _, _, _, _, _ => none
  | n + 1, s, x4, x5, x6, x7, x8, x9 => kX2_fillRow_far_39 k10 k20 (kX2_fillRow_far_39L k10 k20 n) s x4 x5 x6 x7 x8 x9
noncomputable def kX2_fillRow_far_20 (k10 : JS → Int32 → Int32 → Int32 → Option (Int32 × JS)) (k20 : JS → Int32 → Int32 → Int32 → Int32 → Option (Int32 × JS)) (s : JS) (x4 : Int32) (x5 : Int32) (x6 : Int32) (x7 : Int32) : Option (Int32 × JS) := (if x7 < 0 then k10 s x4 (x5 * 6) (x6 + 1) else (bindI (kX2_oddsIfMay s x6 x7) fun r3 s2 => kX2_fillRow_far_39L k10 k20 fu s2 x4 x5 x6 x7 r3 0))
noncomputable def kX2_fillRow_far_20L (k10 : JS → Int32 → Int32 → Int32 → Option (Int32 × JS)) : Nat → JS → Int32 → Int32 → Int32 → Int32 → Option (Int32 × JS)
  | 0, _, _, _, _, _ => none
  | n + 1, s, x4, x5, x6, x7 => kX2_fillRow_far_20 k10 (kX2_fillRow_far_20L k10 n) s x4 x5 x6 x7
noncomputable def kX2_fillRow_far_10 (k10 : JS → Int32 → Int32 → Int32 → Option (Int32 × JS)) (s : JS) (x4 : Int32) (x5 : Int32) (x6 : Int32) : Option (Int32 × JS) := (if x4 ≤ x6 then (some (x5, s)) else kX2_fillRow_far_20L k10 fu s x4 x5 x6 5)
noncomputable def kX2_fillRow_far_10L : Nat → JS → Int32 → Int32 → Int32 → Option (Int32 × JS)
  | 0, _, _, _, _ => none
  | n + 1, s, x4, x5, x6 => kX2_fillRow_far_10 (kX2_fillRow_far_10L n) s x4 x5 x6
noncomputable def kX2_fillRow_far (s : JS) (x3 : Int32) (x4 : Int32) : Option (Int32 × JS) := (letS (s.sf 38 0 1) fun s1 => kX2_fillRow_far_10L fu s1 x4 1 x3)
noncomputable def kX2_fillNear (s : JS) : Option (Int32 × JS) := (bindI (kX2_fillRow_near s 0 (mmin 3 (s.k.v 1))) fun r2 s1 => (some (r2, s1)))
noncomputable def kX2_fillFar (s : JS) : Option (Int32 × JS) := (bindI (kX2_fillRow_far s 3 (s.k.v 1)) fun r2 s1 => (some (r2, s1)))
noncomputable def kX2_casesAheadOf_78 (k23 : JS → Int32 → Int32 → Int32 → Int32 → Int32 → Int32 → Int32 → Option (Int32 × JS)) (k33 : JS → Int32 → Int32 → Int32 → Int32 → Int32 → Int32 → Int32 → Int32 → Option (Int32 × JS)) (s : JS) (x2 : Int32) (x3 : Int32) (x4 : Int32) (x5 : Int32) (x6 : Int32) (x7 : Int32) (x8 : Int32) (x9 : Int32) : Option (Int32 × JS) := k33 s x2 x3 x4 x5 x6 (x7 + 1) x8 (x9 + 1)
noncomputable def kX2_casesAheadOf_75 (k23 : JS → Int32 → Int32 → Int32 → Int32 → Int32 → Int32 → Int32 → Option (Int32 × JS)) (k33 : JS → Int32 → Int32 → Int32 → Int32 → Int32 → Int32 → Int32 → Int32 → Option (Int32 × JS)) (s : JS) (x2 : Int32) (x3 : Int32) (x4 : Int32) (x5 : Int32) (x6 : Int32) (x7 : Int32) (x8 : Int32) (x9 : Int32) : Option (Int32 × JS) := kX2_casesAheadOf_78 k23 k33 s x2 x3 x4 x5 (x6 + 1) x7 x8 x9
noncomputable def kX2_casesAheadOf_33 (k23 : JS → Int32 → Int32 → Int32 → Int32 → Int32 → Int32 → Int32 → Option (Int32 × JS)) (k33 : JS → Int32 → Int32 → Int32 → Int32 → Int32 → Int32 → Int32 → Int32 → Option (Int32 × JS)) (s : JS) (x2 : Int32) (x3 : Int32) (x4 : Int32) (x5 : Int32) (x6 : Int32) (x7 : Int32) (x8 : Int32) (x9 : Int32) : Option (Int32 × JS) := (if x4 ≤ x9 then k23 s x2 x3 x4 x5 x6 x7 (x8 + 1) else (if vpb x8 36 then (if vpb x9 216 then (if x3 < (((s.k.f 38) (Int32.toNatClampNeg x8)) * ((s.k.f 37) (Int32.toNatClampNeg x9))) then kX2_casesAheadOf_75 k23 k33 s x2 x3 x4 x5 x6 x7 x8 x9 else (if (((s.k.f 38) (Int32.toNatClampNeg x8)) * ((s.k.f 37) (Int32.toNatClampNeg x9))) = x3 then (if x2 ≤ x7 then kX2_casesAheadOf_78 k23 k33 s x2 x3 x4 x5 x6 x7 x8 x9 else kX2_casesAheadOf_75 k23 k33 s x2 x3 x4 x5 x6 x7 x8 x9) else kX2_casesAheadOf_78 k23 k33 s x2 x3 x4 x5 x6 x7 x8 x9)) else none) else none))
noncomputable def kX2_casesAheadOf_33L (k23 : JS → Int32 → Int32 → Int32 → Int32 → Int32 → Int32 → Int32 → Option (Int32 × JS)) : Nat → JS → Int32 → Int32 → Int32 → Int32 → Int32 → Int32 → Int32 → Int32 → Option (Int32 × JS)
  | 0, _, _, _, _, _, _, _, _, _ => none
  | n + 1, s, x2, x3, x4, x5, x6, x7, x8, x9 => kX2_casesAheadOf_33 k23 (kX2_casesAheadOf_33L k23 n) s x2 x3 x4 x5 x6 x7 x8 x9
noncomputable def kX2_casesAheadOf_23 (k23 : JS → Int32 → Int32 → Int32 → Int32 → Int32 → Int32 → Int32 → Option (Int32 × JS)) (s : JS) (x2 : Int32) (x3 : Int32) (x4 : Int32) (x5 : Int32) (x6 : Int32) (x7 : Int32) (x8 : Int32) : Option (Int32 × JS) := (if x5 ≤ x8 then (some (x6, s)) else kX2_casesAheadOf_33L k23 fu s x2 x3 x4 x5 x6 x7 x8 0)
noncomputable def kX2_casesAheadOf_23L : Nat → JS → Int32 → Int32 → Int32 → Int32 → Int32 → Int32 → Int32 → Option (Int32 × JS)
  | 0, _, _, _, _, _, _, _, _ => none
  | n + 1, s, x2, x3, x4, x5, x6, x7, x8 => kX2_casesAheadOf_23 (kX2_casesAheadOf_23L n) s x2 x3 x4 x5 x6 x7 x8
noncomputable def kX2_casesAheadOf (s : JS) (x2 : Int32) (x3 : Int32) : Option (Int32 × JS) := (bindI (kX2_fillNear s) fun r2 s1 => (bindI (kX2_fillFar s1) fun r4 s3 => kX2_casesAheadOf_23L fu s3 x2 x3 r2 r4 0 0 0))
noncomputable def kX2_caseAtRank_88 (k35 : JS → Int32 → Int32 → Int32 → Int32 → Int32 → Option (Int32 × JS)) (k45 : JS → Int32 → Int32 → Int32 → Int32 → Int32 → Int32 → Option (Int32 × JS)) (s : JS) (x2 : Int32) (x3 : Int32) (x4 : Int32) (x5 : Int32) (x6 : Int32) (x7 : Int32) : Option (Int32 × JS) := k45 s x2 x3 x4 (x5 + 1) x6 (x7 + 1)
noncomputable def kX2_caseAtRank_45 (k35 : JS → Int32 → Int32 → Int32 → Int32 → Int32 → Option (Int32 × JS)) (k45 : JS → Int32 → Int32 → Int32 → Int32 → Int32 → Int32 → Option (Int32 × JS)) (s : JS) (x2 : Int32) (x3 : Int32) (x4 : Int32) (x5 : Int32) (x6 : Int32) (x7 : Int32) : Option (Int32 × JS) := (if x3 ≤ x7 then k35 s x2 x3 x4 x5 (x6 + 1) else (if vpb x6 36 then (if vpb x7 216 then (if vpb x2 20 then (if (((s.k.f 38) (Int32.toNatClampNeg x6)) * ((s.k.f 37) (Int32.toNatClampNeg x7))) ≤ ((s.k.f 40) (Int32.toNatClampNeg x2)) then kX2_caseAtRank_88 k35 k45 s x2 x3 x4 x5 x6 x7 else (bindP (kX2_putOnTop s.k x5 (((s.k.f 38) (Int32.toNatClampNeg x6)) * ((s.k.f 37) (Int32.toNatClampNeg x7))) x2) fun s6 => (letS (JS.mk s6 s.d) fun s7 => kX2_caseAtRank_88 k35 k45 s7 x2 x3 x4 x5 x6 x7))) else none) else none) else none))
noncomputable def kX2_caseAtRank_45L (k35 : JS → Int32 → Int32 → Int32 → Int32 → Int32 → Option (Int32 × JS)) : Nat → JS → Int32 → Int32 → Int32 → Int32 → Int32 → Int32 → Option (Int32 × JS)
  | 0, _, _, _, _, _, _, _ => none
  | n + 1, s, x2, x3, x4, x5, x6, x7 => kX2_caseAtRank_45 k35 (kX2_caseAtRank_45L k35 n) s x2 x3 x4 x5 x6 x7
noncomputable def kX2_caseAtRank_35 (k35 : JS → Int32 → Int32 → Int32 → Int32 → Int32 → Option (Int32 × JS)) (s : JS) (x2 : Int32) (x3 : Int32) (x4 : Int32) (x5 : Int32) (x6 : Int32) : Option (Int32 × JS) := (if x4 ≤ x6 then (if vpb x2 20 then (some (((s.k.f 39) (Int32.toNatClampNeg x2)), s)) else none) else kX2_caseAtRank_45L k35 fu s x2 x3 x4 x5 x6 0)
noncomputable def kX2_caseAtRank_35L : Nat → JS → Int32 → Int32 → Int32 → Int32 → Int32 → Option (Int32 × JS)
  | 0, _, _, _, _, _, _ => none
  | n + 1, s, x2, x3, x4, x5, x6 => kX2_caseAtRank_35 (kX2_caseAtRank_35L n) s x2 x3 x4 x5 x6
noncomputable def kX2_caseAtRank (s : JS) (x2 : Int32) : Option (Int32 × JS) := (bindI (kX2_fillNear s) fun r2 s1 => (bindI (kX2_fillFar s1) fun r4 s3 => (bindP (kJ7_fill_53178_20 (s3.k.f 40) 0) fun s5 => (letS (s3.sa 40 s5) fun s6 => (bindP (kJ7_fill_53178_20 (s6.k.f 39) (-1)) fun s8 => (letS (s6.sa 39 s8) fun s9 => kX2_caseAtRank_35L fu s9 x2 r2 r4 0 0))))))
noncomputable def kX2_unfind_28 (k2 : JS → Int32 → Int32 → Option JS) (s : JS) (x2 : Int32) (x3 : Int32) : Option JS := k2 s x2 (x3 + 1)
noncomputable def kX2_unfind_2 (k2 : JS → Int32 → Int32 → Option JS) (s : JS) (x2 : Int32) (x3 : Int32) : Option JS := (if (s.k.v 1) ≤ x3 then (some s) else (bindP (kX10_has x2 x3) fun r2 => (if r2 = 0 then kX2_unfind_28 k2 s x2 x3 else (if vpb x3 5 then (letS (s.dsf 0 (Int32.toNatClampNeg x3) (-1)) fun s5 => kX2_unfind_28 k2 s5 x2 x3) else none))))
noncomputable def kX2_unfind_2L : Nat → JS → Int32 → Int32 → Option JS
  | 0, _, _, _ => none
  | n + 1, s, x2, x3 => kX2_unfind_2 (kX2_unfind_2L n) s x2 x3
noncomputable def kX2_unfind (s : JS) (x2 : Int32) : Option JS := kX2_unfind_2L fu s x2 0
noncomputable def kX3_remember (s : PS) : Option PS := (if vpb (((s.g.v 3) + (s.g.v 4)) - ((s.g.v 3) + (s.g.v 4)) / 40 * 40) 40 then (bindP (kX6_copyFrom (DS.mk (s.r (Int32.toNatClampNeg (((s.g.v 3) + (s.g.v 4)) - ((s.g.v 3) + (s.g.v 4)) / 40 * 40))) s.n)) fun s2 => (letS (PS.mk s.g s2.e (va_up s.r (Int32.toNatClampNeg (((s.g.v 3) + (s.g.v 4)) - ((s.g.v 3) + (s.g.v 4)) / 40 * 40)) s2.d)) fun s3 => (if 40 ≤ (s3.g.v 4) then (letS (s3.gsv 3 (((s3.g.v 3) + 1) - ((s3.g.v 3) + 1) / 40 * 40)) fun s6 => (some s6)) else (letS (s3.gsv 4 ((s3.g.v 4) + 1)) fun s8 => (some s8))))) else none)
noncomputable def kX3_takeBack (s : PS) : Option (Int32 × PS) := (if (s.g.v 4) = 0 then (some (0, s)) else (letS (s.gsv 4 ((s.g.v 4) - 1)) fun s2 => (if vpb (((s2.g.v 3) + (s2.g.v 4)) - ((s2.g.v 3) + (s2.g.v 4)) / 40 * 40) 40 then (bindP (kX6_copyFrom (DS.mk s2.n (s2.r (Int32.toNatClampNeg (((s2.g.v 3) + (s2.g.v 4)) - ((s2.g.v 3) + (s2.g.v 4)) / 40 * 40))))) fun s5 => (letS (PS.mk s2.g s5.d (va_up s2.r (Int32.toNatClampNeg (((s2.g.v 3) + (s2.g.v 4)) - ((s2.g.v 3) + (s2.g.v 4)) / 40 * 40)) s5.e)) fun s6 => (some (1, s6)))) else none)))
noncomputable def kX3_keepIn (s : PS) (x1 : Int32) : Option (Int32 × PS) := (if x1 < 0 then (some (0, s)) else (if x1 < 3 then (if vpb x1 3 then (bindP (kX6_copyFrom (DS.mk (s.r (40 + (Int32.toNatClampNeg x1))) s.n)) fun s4 => (letS (PS.mk s.g s4.e (va_up s.r (40 + (Int32.toNatClampNeg x1)) s4.d)) fun s5 => (if vpb x1 3 then (letS (s5.gsf 4 (Int32.toNatClampNeg x1) (vp_nar .boolean 1)) fun s8 => (some (1, s8))) else none))) else none) else (some (0, s))))
noncomputable def kX3_goOnFrom (s : PS) (x1 : Int32) : Option (Int32 × PS) := (if x1 < 0 then (some (0, s)) else (if 3 ≤ x1 then (some (0, s)) else (if vpb x1 3 then (if ((s.g.f 4) (Int32.toNatClampNeg x1)) = 0 then (some (0, s)) else (if vpb x1 3 then (bindP (kX6_copyFrom (DS.mk s.n (s.r (40 + (Int32.toNatClampNeg x1))))) fun s6 => (letS (PS.mk s.g s6.d (va_up s.r (40 + (Int32.toNatClampNeg x1)) s6.e)) fun s7 => (letS (s7.gsv 4 0) fun s9 => (some (1, s9))))) else none)) else none)))
noncomputable def kX4_readParty_73 (s : KS) (x1 : Int64) : Option KS := (bindP (kX4_take s 300) fun s1 => (if vpb (s1.v 9) 6 then (letS (s1.sg 29 (Int32.toNatClampNeg (s1.v 9)) x1) fun s3 => (bindI (kX4_takeInt s3 9) fun r6 s5 => (if vpb (s3.v 9) 6 then (letS (s5.sf 19 (Int32.toNatClampNeg (s3.v 9)) r6) fun s8 => (bindI (kX4_takeInt s8 9) fun r11 s10 => (if vpb (s8.v 9) 6 then (letS (s10.sf 20 (Int32.toNatClampNeg (s8.v 9)) r11) fun s13 => (bindP (kX4_take s13 59) fun s15 => (letS (s15.sv 9 ((s15.v 9) + 1)) fun s16 => (some s16)))) else none))) else none))) else none))
noncomputable def kX4_readParty (s : KS) : Option KS := (if (s.v 9) < 6 then (bindP (kX4_take s 257) fun s2 => (if vpb (s2.v 15) 401 then (bindI (kX4_isAt s2 300) fun r5 s4 => (if r5 = 0 then kX4_readParty_73 s4 ((s2.g 34) (Int32.toNatClampNeg (s2.v 15))) else (bindI (kX4_isTold s4 ((s2.g 34) (Int32.toNatClampNeg (s2.v 15)))) fun r8 s7 => (if r8 = 0 then kX4_readParty_73 s7 ((s2.g 34) (Int32.toNatClampNeg (s2.v 15))) else (if vpb (s7.v 15) 401 then (bindP (kX4_failLater s7 3 ((s7.f 33) (Int32.toNatClampNeg (s7.v 15)))) fun s11 => kX4_readParty_73 s11 ((s2.g 34) (Int32.toNatClampNeg (s2.v 15)))) else none))))) else none)) else (bindP (kX4_fail s 2) fun s12 => (some s12)))
noncomputable def kX4_readUnit_114 (R : KS → Int32 → Option KS) (s : KS) (x1 : Int32) : Option KS := (bindI (kX4_isAt s 40) fun r2 s1 => (if r2 = 0 then (bindP (kX4_fail s1 1) fun s4 => (some s4)) else (bindP (kX4_take s1 40) fun s5 => (bindP (R s5 (x1 + 1)) fun s6 => (bindP (kX4_take s6 41) fun s7 => (some s7))))))
noncomputable def kX4_readUnit_91 (R : KS → Int32 → Option KS) (s : KS) (x1 : Int32) : Option KS := (bindI (kX4_isAt s 40) fun r2 s1 => (if r2 = 0 then kX4_readUnit_114 R s1 x1 else (if x1 < 6 then kX4_readUnit_114 R s1 x1 else (bindP (kX4_fail s1 2) fun s5 => (some s5)))))
noncomputable def kX4_readUnit (R : KS → Int32 → Option KS) (s : KS) (x1 : Int32) : Option KS := (if vpb (s.v 15) 401 then (bindI (kX4_isAt s 301) fun r3 s2 => (if r3 = 0 then (if (((s.f 32) (Int32.toNatClampNeg (s.v 15))) - 266) < 0 then kX4_readUnit_91 R s2 x1 else (if 9 ≤ (((s.f 32) (Int32.toNatClampNeg (s.v 15))) - 266) then kX4_readUnit_91 R s2 x1 else (bindP (kX1_putVar s2 (((s.f 32) (Int32.toNatClampNeg (s.v 15))) - 266)) fun s7 => (bindP (kX4_take s7 ((s.f 32) (Int32.toNatClampNeg (s.v 15)))) fun s8 => (some s8))))) else (if vpb (s2.v 15) 401 then (bindP (kX1_putNumber s2 (Int64.toInt32 ((s2.g 34) (Int32.toNatClampNeg (s2.v 15))))) fun s10 => (bindP (kX4_take s10 301) fun s11 => (some s11))) else none))) else none)
noncomputable def kX5_addUp_75 (k7 : KS → Int32 → Option KS) (k31 : KS → Int32 → Int32 → Option KS) (s : KS) (x1 : Int32) (x2 : Int32) (t0 : Int32) (t1 : Int32) (t2 : Int32) : Option KS := (if vpb t2 5 then (letS (s.sf 18 (Int32.toNatClampNeg t2) (t1 ||| t0)) fun s2 => k31 s2 x1 (x2 + 1)) else none)
noncomputable def kX5_addUp_31 (k7 : KS → Int32 → Option KS) (k31 : KS → Int32 → Int32 → Option KS) (s : KS) (x1 : Int32) (x2 : Int32) : Option KS := (if 6 ≤ x2 then (letS (s.sv 10 ((s.v 10) * 6)) fun s2 => k7 s2 (x1 + 1)) else (if vpb x1 5 then (bindI (kX5_oddsAt_d s x1 x2) fun r6 s5 => (if vpb x1 5 then (letS (s5.sf 17 (Int32.toNatClampNeg x1) (((s.f 17) (Int32.toNatClampNeg x1)) + r6)) fun s8 => (if vpb x1 5 then (bindI (kX5_oddsAt_d s8 x1 x2) fun r12 s11 => (if r12 ≤ 0 then kX5_addUp_75 k7 k31 s11 x1 x2 0 ((s8.f 18) (Int32.toNatClampNeg x1)) x1 else kX5_addUp_75 k7 k31 s11 x1 x2 (1 <<< (x2 &&& 31)) ((s8.f 18) (Int32.toNatClampNeg x1)) x1)) else none)) else none)) else none))
noncomputable def kX5_addUp_31L (k7 : KS → Int32 → Option KS) : Nat → KS → Int32 → Int32 → Option KS
  | 0, _, _, _ => none
  | n + 1, s, x1, x2 => kX5_addUp_31 k7 (kX5_addUp_31L k7 n) s x1 x2
noncomputable def kX5_addUp_7 (k7 : KS → Int32 → Option KS) (s : KS) (x1 : Int32) : Option KS := (if (s.v 8) ≤ x1 then (some s) else (if vpb x1 5 then (letS (s.sf 17 (Int32.toNatClampNeg x1) 0) fun s3 => (if vpb x1 5 then (letS (s3.sf 18 (Int32.toNatClampNeg x1) 0) fun s6 => kX5_addUp_31L k7 fu s6 x1 0) else none)) else none))
noncomputable def kX5_addUp_7L : Nat → KS → Int32 → Option KS
  | 0, _, _ => none
  | n + 1, s, x1 => kX5_addUp_7 (kX5_addUp_7L n) s x1
noncomputable def kX5_addUp (s : KS) : Option KS := (letS (s.sv 10 1) fun s1 => kX5_addUp_7L fu s1 0)
noncomputable def kX6_startOver (s : SD) : Option SD := (bindP (kJ7_fill_53178_5 (s.f 0) (-1)) fun s1 => (letS (s.sa 0 s1) fun s2 => (bindP (kJ7_fill_53178_5 (s2.f 1) 0) fun s4 => (letS (s2.sa 1 s4) fun s5 => (bindP (kJ7_fill_53178_5 (s5.f 2) 0) fun s7 => (letS (s5.sa 2 s7) fun s8 => (bindP (kJ7_fill_53178_6 (s8.f 3) 0) fun s10 => (letS (s8.sa 3 s10) fun s11 => (bindP (kJ7_fill_53178_6 (s11.f 4) 0) fun s13 => (letS (s11.sa 4 s13) fun s14 => (letS (s14.sv 5 0) fun s16 => (letS (s16.sv 6 0) fun s18 => (some s18)))))))))))))
noncomputable def kX8_beliedBy_40 (k6 : KS → Int32 → Int32 → Int32 → Int32 → Int32 → Option (Int32 × KS)) (s : KS) (x1 : Int32) (x2 : Int32) (x3 : Int32) (x4 : Int32) (x5 : Int32) : Option (Int32 × KS) := k6 s x1 x2 x3 x4 (x5 + 1)
noncomputable def kX8_beliedBy_6 (k6 : KS → Int32 → Int32 → Int32 → Int32 → Int32 → Option (Int32 × KS)) (s : KS) (x1 : Int32) (x2 : Int32) (x3 : Int32) (x4 : Int32) (x5 : Int32) : Option (Int32 × KS) := (if x3 ≤ x5 then (some (x4, s)) else (if vpb x5 20 then (if ((s.f 42) (Int32.toNatClampNeg x5)) = x1 then (if vpb x5 20 then (bindP (kX10_has ((s.f 43) (Int32.toNatClampNeg x5)) x2) fun r5 => (if r5 = 0 then kX8_beliedBy_40 k6 s x1 x2 x3 (x4 + 1) x5 else kX8_beliedBy_40 k6 s x1 x2 x3 x4 x5)) else none) else kX8_beliedBy_40 k6 s x1 x2 x3 x4 x5) else none))
noncomputable def kX8_beliedBy_6L : Nat → KS → Int32 → Int32 → Int32 → Int32 → Int32 → Option (Int32 × KS)
  | 0, _, _, _, _, _, _ => none
  | n + 1, s, x1, x2, x3, x4, x5 => kX8_beliedBy_6 (kX8_beliedBy_6L n) s x1 x2 x3 x4 x5
noncomputable def kX8_beliedBy (s : KS) (x1 : Int32) (x2 : Int32) (x3 : Int32) : Option (Int32 × KS) := kX8_beliedBy_6L fu s x1 x2 x3 0 0
noncomputable def kX8_sortByLies_62 (k17 : KS → Int32 → Int32 → Int32 → Option KS) (s : KS) (x1 : Int32) (x2 : Int32) (x3 : Int32) : Option KS := k17 s x1 x2 (x3 + 1)
noncomputable def kX8_sortByLies_36 (k17 : KS → Int32 → Int32 → Int32 → Option KS) (k36 : KS → Int32 → Int32 → Int32 → Int32 → Option KS) (s : KS) (x1 : Int32) (x2 : Int32) (x3 : Int32) (x4 : Int32) : Option KS := (if x4 < 0 then kX8_sortByLies_62 k17 s x1 x2 x3 else (bindI (kX8_withWave s x3 x4 x2) fun r3 s2 => (if vpb x4 4 then (letS (s2.sf 46 (Int32.toNatClampNeg x4) r3) fun s5 => k36 s5 x1 x2 x3 (x4 + (-1))) else none)))
noncomputable def kX8_sortByLies_36L (k17 : KS → Int32 → Int32 → Int32 → Option KS) : Nat → KS → Int32 → Int32 → Int32 → Int32 → Option KS
  | 0, _, _, _, _, _ => none
  | n + 1, s, x1, x2, x3, x4 => kX8_sortByLies_36 k17 (kX8_sortByLies_36L k17 n) s x1 x2 x3 x4
noncomputable def kX8_sortByLies_17 (k17 : KS → Int32 → Int32 → Int32 → Option KS) (s : KS) (x1 : Int32) (x2 : Int32) (x3 : Int32) : Option KS := (if (s.v 1) ≤ x3 then (some s) else (if x3 = x1 then kX8_sortByLies_62 k17 s x1 x2 x3 else kX8_sortByLies_36L k17 fu s x1 x2 x3 3))
noncomputable def kX8_sortByLies_17L : Nat → KS → Int32 → Int32 → Int32 → Option KS
  | 0, _, _, _, _ => none
  | n + 1, s, x1, x2, x3 => kX8_sortByLies_17 (kX8_sortByLies_17L n) s x1 x2 x3
noncomputable def kX8_sortByLies (s : KS) (x1 : Int32) (x2 : Int32) : Option KS := (bindP (kJ7_fill_53178_4 (s.f 46) 0) fun s1 => (letS (s.sa 46 s1) fun s2 => (letS (s2.sf 46 0 1) fun s4 => kX8_sortByLies_17L fu s4 x1 x2 0)))
noncomputable def kX8_fitting (s : KS) (x1 : Int32) (x2 : Int32) : Option (Int32 × KS) := (bindP (kX8_sortByLies s (-1) x2) fun s1 => (bindI (kX8_upTo s1 x1) fun r3 s2 => (some (r3, s2))))
noncomputable def kX8_liars_111 (k5 : KS → Int32 → Int32 → Int32 → Int32 → Option (Int32 × KS)) (k71 : KS → Int32 → Int32 → Int32 → Int32 → Int32 → Int32 → Option (Int32 × KS)) (s : KS) (x1 : Int32) (x2 : Int32) (x4 : Int32) (x5 : Int32) (x6 : Int32) (t0 : Int32) (t1 : Int32) : Option (Int32 × KS) := k71 s x1 x2 (t1 ||| t0) x4 x5 (x6 + 1)
noncomputable def kX8_liars_110 (k5 : KS → Int32 → Int32 → Int32 → Int32 → Option (Int32 × KS)) (k71 : KS → Int32 → Int32 → Int32 → Int32 → Int32 → Int32 → Option (Int32 × KS)) (s : KS) (x1 : Int32) (x2 : Int32) (x4 : Int32) (x5 : Int32) (x6 : Int32) (t0 : Int32) : Option (Int32 × KS) := kX8_liars_111 k5 k71 s x1 x2 x4 x5 x6 0 t0
noncomputable def kX8_liars_71 (k5 : KS → Int32 → Int32 → Int32 → Int32 → Option (Int32 × KS)) (k71 : KS → Int32 → Int32 → Int32 → Int32 → Int32 → Int32 → Option (Int32 × KS)) (s : KS) (x1 : Int32) (x2 : Int32) (x3 : Int32) (x4 : Int32) (x5 : Int32) (x6 : Int32) : Option (Int32 × KS) := (if x1 ≤ x6 then k5 s x1 x2 x3 (x4 + 1) else (if vpb x6 20 then (if ((s.f 42) (Int32.toNatClampNeg x6)) = x4 then (if vpb x6 20 then (if (((s.f 43) (Int32.toNatClampNeg x6)) &&& x5) = 0 then kX8_liars_111 k5 k71 s x1 x2 x4 x5 x6 (1 <<< (x6 &&& 31)) x3 else kX8_liars_110 k5 k71 s x1 x2 x4 x5 x6 x3) else none) else kX8_liars_110 k5 k71 s x1 x2 x4 x5 x6 x3) else none))
noncomputable def kX8_liars_71L (k5 : KS → Int32 → Int32 → Int32 → Int32 → Option (Int32 × KS)) : Nat → KS → Int32 → Int32 → Int32 → Int32 → Int32 → Int32 → Option (Int32 × KS)
  | 0, _, _, _, _, _, _, _ => none
  | n + 1, s, x1, x2, x3, x4, x5, x6 => kX8_liars_71 k5 (kX8_liars_71L k5 n) s x1 x2 x3 x4 x5 x6
noncomputable def kX8_liars_59 (k5 : KS → Int32 → Int32 → Int32 → Int32 → Option (Int32 × KS)) (k30 : KS → Int32 → Int32 → Int32 → Int32 → Int32 → Int32 → Option (Int32 × KS)) (s : KS) (x1 : Int32) (x2 : Int32) (x3 : Int32) (x4 : Int32) (x6 : Int32) (t0 : Int32) (t1 : Int32) : Option (Int32 × KS) := k30 s x1 x2 x3 x4 (t1 ||| t0) (x6 + 1)
noncomputable def kX8_liars_30 (k5 : KS → Int32 → Int32 → Int32 → Int32 → Option (Int32 × KS)) (k30 : KS → Int32 → Int32 → Int32 → Int32 → Int32 → Int32 → Option (Int32 × KS)) (s : KS) (x1 : Int32) (x2 : Int32) (x3 : Int32) (x4 : Int32) (x5 : Int32) (x6 : Int32) : Option (Int32 × KS) := (if 6 ≤ x6 then kX8_liars_71L k5 fu s x1 x2 x3 x4 x5 0 else (bindI (kX8_fittingWith s x4 x6 x2) fun r3 s2 => (if r3 ≤ 0 then kX8_liars_59 k5 k30 s2 x1 x2 x3 x4 x6 0 x5 else kX8_liars_59 k5 k30 s2 x1 x2 x3 x4 x6 (1 <<< (x6 &&& 31)) x5)))
noncomputable def kX8_liars_30L (k5 : KS → Int32 → Int32 → Int32 → Int32 → Option (Int32 × KS)) : Nat → KS → Int32 → Int32 → Int32 → Int32 → Int32 → Int32 → Option (Int32 × KS)
  | 0, _, _, _, _, _, _, _ => none
  | n + 1, s, x1, x2, x3, x4, x5, x6 => kX8_liars_30 k5 (kX8_liars_30L k5 n) s x1 x2 x3 x4 x5 x6
noncomputable def kX8_liars_5 (k5 : KS → Int32 → Int32 → Int32 → Int32 → Option (Int32 × KS)) (s : KS) (x1 : Int32) (x2 : Int32) (x3 : Int32) (x4 : Int32) : Option (Int32 × KS) := (if (s.v 1) ≤ x4 then (some (x3, s)) else (bindP (kX8_sortByLies s x4 0) fun s2 => kX8_liars_30L k5 fu s2 x1 x2 x3 x4 0 0))
noncomputable def kX8_liars_5L : Nat → KS → Int32 → Int32 → Int32 → Int32 → Option (Int32 × KS)
  | 0, _, _, _, _, _ => none
  | n + 1, s, x1, x2, x3, x4 => kX8_liars_5 (kX8_liars_5L n) s x1 x2 x3 x4
noncomputable def kX8_liars (s : KS) (x1 : Int32) (x2 : Int32) : Option (Int32 × KS) := kX8_liars_5L fu s x1 x2 0 0
noncomputable def kX8_waveToAsk_85 (k8 : KS → Int32 → Int32 → Int32 → Int32 → Option (Int32 × KS)) (s : KS) (x1 : Int32) (x2 : Int32) (x3 : Int32) (x4 : Int32) : Option (Int32 × KS) := k8 s x1 x2 x3 (x4 + 1)
noncomputable def kX8_waveToAsk_79 (k8 : KS → Int32 → Int32 → Int32 → Int32 → Option (Int32 × KS)) (s : KS) (x1 : Int32) (x4 : Int32) (x5 : Int32) : Option (Int32 × KS) := kX8_waveToAsk_85 k8 s x1 x4 x5 x4
noncomputable def kX8_waveToAsk_33 (k8 : KS → Int32 → Int32 → Int32 → Int32 → Option (Int32 × KS)) (k33 : KS → Int32 → Int32 → Int32 → Int32 → Int32 → Int32 → Option (Int32 × KS)) (s : KS) (x1 : Int32) (x2 : Int32) (x3 : Int32) (x4 : Int32) (x5 : Int32) (x6 : Int32) : Option (Int32 × KS) := (if 6 ≤ x6 then (if x5 ≤ 0 then kX8_waveToAsk_85 k8 s x1 x2 x3 x4 else (if x2 = (-2) then kX8_waveToAsk_79 k8 s x1 x4 x5 else (if x3 ≤ x5 then kX8_waveToAsk_85 k8 s x1 x2 x3 x4 else kX8_waveToAsk_79 k8 s x1 x4 x5))) else (bindI (kX8_fittingWith s x4 x6 x1) fun r6 s5 => k33 s5 x1 x2 x3 x4 (mmax x5 r6) (x6 + 1)))
noncomputable def kX8_waveToAsk_33L (k8 : KS → Int32 → Int32 → Int32 → Int32 → Option (Int32 × KS)) : Nat → KS → Int32 → Int32 → Int32 → Int32 → Int32 → Int32 → Option (Int32 × KS)
  | 0, _, _, _, _, _, _, _ => none
  | n + 1, s, x1, x2, x3, x4, x5, x6 => kX8_waveToAsk_33 k8 (kX8_waveToAsk_33L k8 n) s x1 x2 x3 x4 x5 x6
noncomputable def kX8_waveToAsk_8 (k8 : KS → Int32 → Int32 → Int32 → Int32 → Option (Int32 × KS)) (s : KS) (x1 : Int32) (x2 : Int32) (x3 : Int32) (x4 : Int32) : Option (Int32 × KS) := (if (s.v 1) ≤ x4 then (some (x2, s)) else (bindP (kX8_sortByLies s x4 0) fun s2 => kX8_waveToAsk_33L k8 fu s2 x1 x2 x3 x4 0 0))
noncomputable def kX8_waveToAsk_8L : Nat → KS → Int32 → Int32 → Int32 → Int32 → Option (Int32 × KS)
  | 0, _, _, _, _, _ => none
  | n + 1, s, x1, x2, x3, x4 => kX8_waveToAsk_8 (kX8_waveToAsk_8L n) s x1 x2 x3 x4
noncomputable def kX8_waveToAsk (s : KS) (x1 : Int32) : Option (Int32 × KS) := kX8_waveToAsk_8L fu s x1 (-2) 0 0
noncomputable def kX9_splitOne (s : KS) : Option (Int32 × KS) := (letS (s.su 0 0) fun s1 => (bindI (kX7_byteAt s1 (s1.v 20)) fun r4 s3 => (if r4 = (-1) then (some (302, s3)) else (bindP (kX9_isLetter r4) fun r6 => (if r6 = 0 then (bindP (kX9_isDigit r4) fun r8 => (if r8 = 0 then (letS (s3.sv 20 ((s3.v 20) + 1)) fun s10 => (bindP (kJ0_indexOf_0f7a4 (UInt32.toInt32 (Int32.toUInt32 r4 % 65536))) fun r12 => (if r12 < 0 then (some (303, s10)) else (some (r4, s10))))) else (bindI (kX9_splitDigits s3) fun r15 s14 => (some (r15, s14))))) else (bindI (kX9_splitLetters s3) fun r17 s16 => (some (r17, s16))))))))
noncomputable def kX10_odds (s : XS) (x1 : Int32) (x2 : Int32) : Option (Int32 × XS) := (bindI (kX5_hasWave s.k x1) fun r2 s1 => (letS (XS.mk s.g s.t s.n s1) fun s3 => (if r2 = 0 then (some ((-1), s3)) else (bindP (kX10_isThing x2) fun r6 => (if r6 = 0 then (some ((-1), s3)) else (bindI (kX5_oddsAt s3.k x1 x2) fun r9 s8 => (letS (XS.mk s3.g s3.t s3.n s8) fun s10 => (some (r9, s10)))))))))
noncomputable def kX10_buoy (s : YS) (x1 : Int32) (x2 : Int32) (x3 : Int32) : Option (Int32 × YS) := (bindI (kX5_hasWave s.x.k x1) fun r2 s1 => (letS (YS.mk (XS.mk s.x.g s.x.t s.x.n s1) s.r) fun s3 => (if r2 = 0 then (some (0, s3)) else (bindP (kX10_isThing x2) fun r6 => (if r6 = 0 then (some (0, s3)) else (if vpb x1 5 then (bindP (kX10_has ((s3.x.n.f 1) (Int32.toNatClampNeg x1)) x2) fun r9 => (if r9 = x3 then (some (0, s3)) else (bindP (kX3_remember (PS.mk s3.x.g s3.x.n s3.r)) fun s11 => (letS (YS.mk (XS.mk s11.g s3.x.t s11.n s3.x.k) s11.r) fun s12 => (if vpb x1 5 then (if vpb x1 5 then (letS (s12.nsf 1 (Int32.toNatClampNeg x1) (((s12.x.n.f 1) (Int32.toNatClampNeg x1)) ^^^ (1 <<< (x2 &&& 31)))) fun s16 => (some (1, s16))) else none) else none))))) else none))))))
noncomputable def kX10_fetch (s : YS) (x1 : Int32) : Option (Int32 × YS) := (bindI (kX5_hasParty s.x.k x1) fun r2 s1 => (letS (YS.mk (XS.mk s.x.g s.x.t s.x.n s1) s.r) fun s3 => (if r2 = 0 then (some (0, s3)) else (if vpb x1 6 then (if ((s3.x.n.f 3) (Int32.toNatClampNeg x1)) = 0 then (some (0, s3)) else (bindP (kX3_remember (PS.mk s3.x.g s3.x.n s3.r)) fun s8 => (letS (YS.mk (XS.mk s8.g s3.x.t s8.n s3.x.k) s8.r) fun s9 => (if vpb x1 6 then (letS (s9.nsf 3 (Int32.toNatClampNeg x1) 0) fun s12 => (some (1, s12))) else none)))) else none))))
noncomputable def kX10_undo (s : YS) : Option (Int32 × YS) := (bindI (kX3_takeBack (PS.mk s.x.g s.x.n s.r)) fun r2 s1 => (letS (YS.mk (XS.mk s1.g s.x.t s1.n s.x.k) s1.r) fun s3 => (if r2 = 0 ∨ r2 = 1 then some (r2, s3) else none)))
noncomputable def kX10_cases (s : XS) : Option (Int32 × XS) := (bindI (kX2_caseCount (JS.mk s.k s.n)) fun r2 s1 => (letS (XS.mk s.g s.t s1.d s1.k) fun s3 => (some (r2, s3))))
noncomputable def kX10_chance (s : XS) (x1 : Int32) : Option (Int32 × XS) := (bindI (kX5_hasGuess s.k x1) fun r2 s1 => (letS (XS.mk s.g s.t s.n s1) fun s3 => (if r2 = 0 then (some ((-1), s3)) else (bindI (kX2_oddsOf (JS.mk s3.k s3.n) x1) fun r7 s6 => (letS (XS.mk s3.g s3.t s6.d s6.k) fun s8 => (some (r7, s8)))))))
noncomputable def kX10_enough (s : XS) : Option (Int32 × XS) := (bindI (kX2_caseCount (JS.mk s.k s.n)) fun r2 s1 => (letS (XS.mk s.g s.t s1.d s1.k) fun s3 => (if r2 = 0 then (some ((-2), s3)) else (bindI (kX2_goesAtMost (JS.mk s3.k s3.n)) fun r7 s6 => (letS (XS.mk s3.g s3.t s6.d s6.k) fun s8 => (some (r7, s8)))))))
noncomputable def kX10_left (s : XS) (x1 : Int32) : Option (Int32 × XS) := (bindI (kX5_hasGuess s.k x1) fun r2 s1 => (letS (XS.mk s.g s.t s.n s1) fun s3 => (if r2 = 0 then (some ((-1), s3)) else (bindI (kX2_caseCount (JS.mk s3.k s3.n)) fun r7 s6 => (letS (XS.mk s3.g s3.t s6.d s6.k) fun s8 => (if r7 = 0 then (some ((-2), s8)) else (bindI (kX2_leftBehind (JS.mk s8.k s8.n) x1) fun r12 s11 => (letS (XS.mk s8.g s8.t s11.d s11.k) fun s13 => (some (r12, s13))))))))))
noncomputable def kX10_wisest_11 (s : XS) (x1 : Int32) : Option (Int32 × XS) := (bindI (kX2_caseCount (JS.mk s.k s.n)) fun r2 s1 => (letS (XS.mk s.g s.t s1.d s1.k) fun s3 => (if r2 = 0 then (some ((-2), s3)) else (bindI (kX2_wisestGuess (JS.mk s3.k s3.n)) fun r7 s6 => (letS (XS.mk s3.g s3.t s6.d s6.k) fun s8 => (if x1 = 0 then (some (r7, s8)) else (bindI (kX2_leftBehind (JS.mk s8.k s8.n) r7) fun r12 s11 => (letS (XS.mk s8.g s8.t s11.d s11.k) fun s13 => (some (r12, s13))))))))))
noncomputable def kX10_wisest (s : XS) (x1 : Int32) : Option (Int32 × XS) := (if x1 = 0 then kX10_wisest_11 s x1 else (if x1 = 1 then kX10_wisest_11 s x1 else (some ((-1), s))))
noncomputable def kX10_rank (s : XS) (x1 : Int32) : Option (Int32 × XS) := (bindI (kX5_hasGuess s.k x1) fun r2 s1 => (letS (XS.mk s.g s.t s.n s1) fun s3 => (if r2 = 0 then (some ((-1), s3)) else (bindI (kX2_oddsOf (JS.mk s3.k s3.n) x1) fun r7 s6 => (letS (XS.mk s3.g s3.t s6.d s6.k) fun s8 => (if r7 = 0 then (some ((-2), s8)) else (bindI (kX2_casesAheadOf (JS.mk s8.k s8.n) x1 r7) fun r12 s11 => (letS (XS.mk s8.g s8.t s11.d s11.k) fun s13 => (some (r12, s13))))))))))
noncomputable def kX10_ranked (s : XS) (x1 : Int32) : Option (Int32 × XS) := (if x1 < 0 then (some ((-1), s)) else (if x1 < 20 then (bindI (kX2_caseAtRank (JS.mk s.k s.n) x1) fun r4 s3 => (letS (XS.mk s.g s.t s3.d s3.k) fun s5 => (some (r4, s5)))) else (some ((-1), s))))
noncomputable def kX10_alike_26 (k26 : XS → Int32 → Int32 → Int32 → Option (Int32 × XS)) (s : XS) (x1 : Int32) (x2 : Int32) (x3 : Int32) : Option (Int32 × XS) := (if (s.k.v 1) ≤ x3 then (some (x3, s)) else (bindP (kX10_thingIn x1 x3) fun r2 => (bindP (kX10_thingIn x2 x3) fun r3 => (if r2 = r3 then k26 s x1 x2 (x3 + 1) else (some (x3, s))))))
noncomputable def kX10_alike_26L : Nat → XS → Int32 → Int32 → Int32 → Option (Int32 × XS)
  | 0, _, _, _, _ => none
  | n + 1, s, x1, x2, x3 => kX10_alike_26 (kX10_alike_26L n) s x1 x2 x3
noncomputable def kX10_alike (s : XS) (x1 : Int32) (x2 : Int32) : Option (Int32 × XS) := (bindI (kX5_hasGuess s.k x1) fun r2 s1 => (letS (XS.mk s.g s.t s.n s1) fun s3 => (if r2 = 0 then (some ((-1), s3)) else (bindI (kX5_hasGuess s3.k x2) fun r7 s6 => (letS (XS.mk s3.g s3.t s3.n s6) fun s8 => (if r7 = 0 then (some ((-1), s8)) else kX10_alike_26L fu s8 x1 x2 0))))))
noncomputable def kX10_spread (s : XS) (x1 : Int32) : Option (Int32 × XS) := (bindI (kX5_hasWave s.k x1) fun r2 s1 => (letS (XS.mk s.g s.t s.n s1) fun s3 => (if r2 = 0 then (some ((-1), s3)) else (bindI (kX2_oddsApart (JS.mk s3.k s3.n) x1) fun r7 s6 => (letS (XS.mk s3.g s3.t s6.d s6.k) fun s8 => (some (r7, s8)))))))
noncomputable def kX10_open_40 (k4 : XS → Int32 → Int32 → Option (Int32 × XS)) (s : XS) (x1 : Int32) (x2 : Int32) : Option (Int32 × XS) := k4 s x1 (x2 + 1)
noncomputable def kX10_open_4 (k4 : XS → Int32 → Int32 → Option (Int32 × XS)) (s : XS) (x1 : Int32) (x2 : Int32) : Option (Int32 × XS) := (if (s.k.v 1) ≤ x2 then (some (x1, s)) else (bindI (kX0_mayBe (JS.mk s.k s.n) x2) fun r3 s2 => (letS (XS.mk s.g s.t s2.d s2.k) fun s4 => (bindP (kJ6_bitCount_0f7a4 r3) fun r6 => (if r6 ≤ 1 then kX10_open_40 k4 s4 x1 x2 else kX10_open_40 k4 s4 (x1 ||| (1 <<< (x2 &&& 31))) x2)))))
noncomputable def kX10_open_4L : Nat → XS → Int32 → Int32 → Option (Int32 × XS)
  | 0, _, _, _ => none
  | n + 1, s, x1, x2 => kX10_open_4 (kX10_open_4L n) s x1 x2
noncomputable def kX10_open (s : XS) : Option (Int32 × XS) := kX10_open_4L fu s 0 0
noncomputable def kX10_hold (s : YS) (x1 : Int32) : Option (Int32 × YS) := (bindI (kX3_keepIn (PS.mk s.x.g s.x.n s.r) x1) fun r2 s1 => (letS (YS.mk (XS.mk s1.g s.x.t s1.n s.x.k) s1.r) fun s3 => (if r2 = 0 ∨ r2 = 1 then some (r2, s3) else none)))
noncomputable def kX10_restore (s : YS) (x1 : Int32) : Option (Int32 × YS) := (bindI (kX3_goOnFrom (PS.mk s.x.g s.x.n s.r) x1) fun r2 s1 => (letS (YS.mk (XS.mk s1.g s.x.t s1.n s.x.k) s1.r) fun s3 => (if r2 = 0 ∨ r2 = 1 then some (r2, s3) else none)))
noncomputable def kX10_buoysLying_4 (k4 : XS → Int32 → Int32 → Option (Int32 × XS)) (s : XS) (x1 : Int32) (x2 : Int32) : Option (Int32 × XS) := (if (s.k.v 1) ≤ x2 then (some (x1, s)) else (if vpb x2 5 then (bindP (kJ6_bitCount_0f7a4 ((s.n.f 1) (Int32.toNatClampNeg x2))) fun r3 => k4 s (x1 + r3) (x2 + 1)) else none))
noncomputable def kX10_buoysLying_4L : Nat → XS → Int32 → Int32 → Option (Int32 × XS)
  | 0, _, _, _ => none
  | n + 1, s, x1, x2 => kX10_buoysLying_4 (kX10_buoysLying_4L n) s x1 x2
noncomputable def kX10_buoysLying (s : XS) : Option (Int32 × XS) := kX10_buoysLying_4L fu s 0 0
noncomputable def kX10_lot (x0 : Int32) (x1 : Int32) (x2 : Int32) : Option Int32 := (if 0 < x0 then (bindP (kX10_stirred x1 173) fun r2 => (bindP (kX10_stirred r2 x2) fun r3 => (if ¬ x0 = 0 then (some ((ushr r3 1) - (ushr r3 1) / x0 * x0)) else none))) else (some 0))
noncomputable def kX1_clear (s : KS) : Option KS := (letS (s.sv 12 0) fun s1 => (bindP (kX1_begin s1 0) fun s3 => (bindP (kX1_putVar s3 2) fun s4 => (bindP (kX1_endPart s4) fun s5 => (bindP (kX1_begin s5 1) fun s6 => (bindP (kX1_putNumber s6 1) fun s7 => (bindP (kX1_endPart s7) fun s8 => (bindP (kX1_begin s8 2) fun s9 => (bindP (kX1_putNumber s9 1) fun s10 => (bindP (kX1_endPart s10) fun s11 => (bindP (kX1_begin s11 3) fun s12 => (bindP (kX1_putNumber s12 0) fun s13 => (bindP (kX1_endPart s13) fun s14 => (some s14))))))))))))))
noncomputable def kX1_valueOf_77 (s : KS) (x1 : Int32) (x3 : Int32) : Option (Int32 × KS) := (bindI (kX1_partValue s x1 x3) fun r2 s1 => (if (s1.v 7) = 0 then (some (r2, s1)) else (some (0, s1))))
noncomputable def kX1_valueOf_19 (k19 : KS → Int32 → Int32 → Int32 → Int32 → Option (Int32 × KS)) (s : KS) (x1 : Int32) (x2 : Int32) (x3 : Int32) (x4 : Int32) : Option (Int32 × KS) := (if x2 ≤ (x4 + 2) then kX1_valueOf_77 s x1 x3 else (bindI (kX1_partValue s x1 x4) fun r3 s2 => (bindI (kX1_partValue s2 x1 (x4 + 1)) fun r5 s4 => (if (s4.v 7) = 0 then (if r5 ≤ r3 then k19 s4 x1 x2 x3 (x4 + 3) else kX1_valueOf_77 s4 x1 (x4 + 2)) else (some (0, s4))))))
noncomputable def kX1_valueOf_19L : Nat → KS → Int32 → Int32 → Int32 → Int32 → Option (Int32 × KS)
  | 0, _, _, _, _, _ => none
  | n + 1, s, x1, x2, x3, x4 => kX1_valueOf_19 (kX1_valueOf_19L n) s x1 x2 x3 x4
noncomputable def kX1_valueOf (s : KS) (x1 : Int32) : Option (Int32 × KS) := (letS (s.sv 7 0) fun s1 => (if vpb x1 4 then kX1_valueOf_19L fu s1 x1 (((s1.f 12) (Int32.toNatClampNeg x1)) - 1) (((s1.f 12) (Int32.toNatClampNeg x1)) - 1) 0 else none))
noncomputable def kX2_oddsOfAll_61 (k5 : JS → Int32 → Int32 → Int32 → Option (Int32 × JS)) (s : JS) (x2 : Int32) (x3 : Int32) (x4 : Int32) : Option (Int32 × JS) := k5 s x2 x3 (x4 + 1)
noncomputable def kX2_oddsOfAll_29 (k5 : JS → Int32 → Int32 → Int32 → Option (Int32 × JS)) (k29 : JS → Int32 → Int32 → Int32 → Int32 → Int32 → Option (Int32 × JS)) (s : JS) (x2 : Int32) (x3 : Int32) (x4 : Int32) (x5 : Int32) (x6 : Int32) : Option (Int32 × JS) := (if 6 ≤ x6 then kX2_oddsOfAll_61 k5 s x2 (x3 * x5) x4 else (bindI (kX2_oddsIfMay s x4 x6) fun r3 s2 => k29 s2 x2 x3 x4 (x5 + r3) (x6 + 1)))
noncomputable def kX2_oddsOfAll_29L (k5 : JS → Int32 → Int32 → Int32 → Option (Int32 × JS)) : Nat → JS → Int32 → Int32 → Int32 → Int32 → Int32 → Option (Int32 × JS)
  | 0, _, _, _, _, _, _ => none
  | n + 1, s, x2, x3, x4, x5, x6 => kX2_oddsOfAll_29 k5 (kX2_oddsOfAll_29L k5 n) s x2 x3 x4 x5 x6
noncomputable def kX2_oddsOfAll_5 (k5 : JS → Int32 → Int32 → Int32 → Option (Int32 × JS)) (s : JS) (x2 : Int32) (x3 : Int32) (x4 : Int32) : Option (Int32 × JS) := (if (s.k.v 1) ≤ x4 then (some (x3, s)) else (if x4 = x2 then kX2_oddsOfAll_61 k5 s x2 x3 x4 else kX2_oddsOfAll_29L k5 fu s x2 x3 x4 0 0))
noncomputable def kX2_oddsOfAll_5L : Nat → JS → Int32 → Int32 → Int32 → Option (Int32 × JS)
  | 0, _, _, _, _ => none
  | n + 1, s, x2, x3, x4 => kX2_oddsOfAll_5 (kX2_oddsOfAll_5L n) s x2 x3 x4
noncomputable def kX2_oddsOfAll (s : JS) (x2 : Int32) : Option (Int32 × JS) := kX2_oddsOfAll_5L fu s x2 1 0
noncomputable def kX4_readProduct_32 (R : KS → Int32 → Option KS) (k7 : KS → Int32 → Int32 → Option KS) (s : KS) (x1 : Int32) (x2 : Int32) : Option KS := (if vpb (s.v 15) 401 then (bindP (kX4_take s ((s.f 32) (Int32.toNatClampNeg (s.v 15)))) fun s2 => (bindP (kX4_readUnit R s2 x1) fun s3 => (bindP (kX1_putSign s3 ((s.f 32) (Int32.toNatClampNeg (s.v 15)))) fun s4 => k7 s4 x1 (x2 + 1)))) else none)
noncomputable def kX4_readProduct_7 (R : KS → Int32 → Option KS) (k7 : KS → Int32 → Int32 → Option KS) (s : KS) (x1 : Int32) (x2 : Int32) : Option KS := (if 400 ≤ x2 then (some s) else (bindI (kX4_isAt s 42) fun r3 s2 => (if r3 = 0 then (bindI (kX4_isAt s2 47) fun r6 s5 => (if r6 = 0 then (some s5) else kX4_readProduct_32 R k7 s5 x1 x2)) else kX4_readProduct_32 R k7 s2 x1 x2)))
noncomputable def kX4_readProduct_7L (R : KS → Int32 → Option KS) : Nat → KS → Int32 → Int32 → Option KS
  | 0, _, _, _ => none
  | n + 1, s, x1, x2 => kX4_readProduct_7 R (kX4_readProduct_7L R n) s x1 x2
noncomputable def kX4_readProduct (R : KS → Int32 → Option KS) (s : KS) (x1 : Int32) : Option KS := (bindP (kX4_readUnit R s x1) fun s1 => kX4_readProduct_7L R fu s1 x1 0)
noncomputable def kX5_clear (s : KS) : Option KS := (letS (s.sv 8 0) fun s1 => (letS (s1.sv 9 0) fun s3 => (letS (s3.sv 10 1) fun s5 => (letS (s5.sv 11 0) fun s7 => (bindP (kX1_clear s7) fun s9 => (some s9))))))
noncomputable def kX5_thingThere_24 (k24 : KS → Int32 → Int32 → Int32 → Int32 → Option (Int32 × KS)) (s : KS) (x1 : Int32) (x4 : Int32) (x5 : Int32) (x6 : Int32) : Option (Int32 × KS) := (if 6 ≤ x6 then (some (5, s)) else (bindI (kX5_oddsAt s x1 x6) fun r3 s2 => (if (x5 + r3) ≤ x4 then k24 s2 x1 x4 (x5 + r3) (x6 + 1) else (some (x6, s2)))))
noncomputable def kX5_thingThere_24L : Nat → KS → Int32 → Int32 → Int32 → Int32 → Option (Int32 × KS)
  | 0, _, _, _, _, _ => none
  | n + 1, s, x1, x4, x5, x6 => kX5_thingThere_24 (kX5_thingThere_24L n) s x1 x4 x5 x6
noncomputable def kX5_thingThere (s : KS) (x1 : Int32) (x2 : Int32) (x3 : Int32) : Option (Int32 × KS) := (if vpb x1 5 then (bindP (kX10_lot ((s.f 4) (Int32.toNatClampNeg x1)) x3 ((8 * x2) + x1)) fun r2 => kX5_thingThere_24L fu s x1 r2 0 0) else none)
noncomputable def kX8_believe_73 (k2 : JS → Int32 → Int32 → Option JS) (k27 : JS → Int32 → Int32 → Int32 → Int32 → Option JS) (s : JS) (x2 : Int32) (x3 : Int32) (x4 : Int32) (x5 : Int32) (x6 : Int32) (t0 : Int32) (t1 : Int32) : Option JS := (if vpb t1 30 then (letS (s.sf 44 (Int32.toNatClampNeg t1) t0) fun s2 => (bindI (kX8_beliedBy s2.k x3 x5 x2) fun r5 s4 => (letS (JS.mk s4 s2.d) fun s6 => (if vpb x6 30 then (letS (s6.sf 45 (Int32.toNatClampNeg x6) r5) fun s9 => k27 s9 x2 x3 x4 (x5 + 1)) else none)))) else none)
noncomputable def kX8_believe_27 (k2 : JS → Int32 → Int32 → Option JS) (k27 : JS → Int32 → Int32 → Int32 → Int32 → Option JS) (s : JS) (x2 : Int32) (x3 : Int32) (x4 : Int32) (x5 : Int32) : Option JS := (if 6 ≤ x5 then k2 s x2 (x3 + 1) else (bindP (kX10_has x4 x5) fun r2 => (if r2 = 0 then kX8_believe_73 k2 k27 s x2 x3 x4 x5 ((x3 * 6) + x5) 0 ((x3 * 6) + x5) else (bindI (kX5_oddsAt s.k x3 x5) fun r5 s4 => (letS (JS.mk s4 s.d) fun s6 => kX8_believe_73 k2 k27 s6 x2 x3 x4 x5 ((x3 * 6) + x5) r5 ((x3 * 6) + x5))))))
noncomputable def kX8_believe_27L (k2 : JS → Int32 → Int32 → Option JS) : Nat → JS → Int32 → Int32 → Int32 → Int32 → Option JS
  | 0, _, _, _, _, _ => none
  | n + 1, s, x2, x3, x4, x5 => kX8_believe_27 k2 (kX8_believe_27L k2 n) s x2 x3 x4 x5
noncomputable def kX8_believe_2 (k2 : JS → Int32 → Int32 → Option JS) (s : JS) (x2 : Int32) (x3 : Int32) : Option JS := (if (s.k.v 1) ≤ x3 then (some s) else (bindI (kX0_mayBe s x3) fun r3 s2 => kX8_believe_27L k2 fu s2 x2 x3 r3 0))
noncomputable def kX8_believe_2L : Nat → JS → Int32 → Int32 → Option JS
  | 0, _, _, _ => none
  | n + 1, s, x2, x3 => kX8_believe_2 (kX8_believe_2L n) s x2 x3
noncomputable def kX8_believe (s : JS) (x2 : Int32) : Option JS := kX8_believe_2L fu s x2 0
noncomputable def kX9_split_36 (k11 : KS → Int32 → Int32 → Option KS) (s : KS) (x2 : Int32) : Option KS := (bindP (kX9_skipBlanks s) fun s1 => (if vpb x2 401 then (letS (s1.sf 33 (Int32.toNatClampNeg x2) (s1.v 20)) fun s3 => (bindI (kX9_splitOne s3) fun r6 s5 => (if vpb x2 401 then (letS (s5.sf 32 (Int32.toNatClampNeg x2) r6) fun s8 => (if vpb x2 401 then (letS (s8.sg 34 (Int32.toNatClampNeg x2) (s8.u 0)) fun s11 => k11 s11 r6 (x2 + 1)) else none)) else none))) else none))
noncomputable def kX9_split_11 (k11 : KS → Int32 → Int32 → Option KS) (s : KS) (x1 : Int32) (x2 : Int32) : Option KS := (if 400 < x2 then (some s) else (if x2 = 0 then kX9_split_36 k11 s x2 else (if x1 = 302 then (some s) else (if x1 = 303 then (some s) else kX9_split_36 k11 s x2))))
noncomputable def kX9_split_11L : Nat → KS → Int32 → Int32 → Option KS
  | 0, _, _, _ => none
  | n + 1, s, x1, x2 => kX9_split_11 (kX9_split_11L n) s x1 x2
noncomputable def kX9_split (s : KS) : Option KS := (letS (s.sv 20 0) fun s1 => kX9_split_11L fu s1 303 0)
noncomputable def kX10_all (s : XS) : Option (Int32 × XS) := (bindI (kX2_oddsOfAll (JS.mk s.k s.n) (-1)) fun r2 s1 => (letS (XS.mk s.g s.t s1.d s1.k) fun s3 => (some (r2, s3))))
noncomputable def kX10_share (s : XS) (x1 : Int32) (x2 : Int32) : Option (Int32 × XS) := (bindI (kX5_hasWave s.k x1) fun r2 s1 => (letS (XS.mk s.g s.t s.n s1) fun s3 => (if r2 = 0 then (some ((-1), s3)) else (bindP (kX10_isThing x2) fun r6 => (if r6 = 0 then (some ((-1), s3)) else (bindI (kX0_mayBe (JS.mk s3.k s3.n) x1) fun r9 s8 => (letS (XS.mk s3.g s3.t s8.d s8.k) fun s10 => (bindP (kX10_has r9 x2) fun r12 => (if r12 = 0 then (some (0, s10)) else (bindI (kX5_oddsAt s10.k x1 x2) fun r15 s14 => (letS (XS.mk s10.g s10.t s10.n s14) fun s16 => (bindI (kX2_oddsOfAll (JS.mk s16.k s16.n) x1) fun r19 s18 => (letS (XS.mk s16.g s16.t s18.d s18.k) fun s20 => (some ((r15 * r19), s20)))))))))))))))
noncomputable def kX10_drawn_29 (k29 : XS → Int32 → Int32 → Int32 → Int32 → Option (Int32 × XS)) (s : XS) (x1 : Int32) (x2 : Int32) (x3 : Int32) (x4 : Int32) : Option (Int32 × XS) := (if x2 ≤ x4 then (bindP (kJ6_bitCount_0f7a4 x3) fun r2 => (some (r2, s))) else (if vpb x1 5 then (bindI (kX5_thingThere s.k x1 ((s.n.f 2) (Int32.toNatClampNeg x1)) ((s.k.v 4) + x4)) fun r5 s4 => (letS (XS.mk s.g s.t s.n s4) fun s6 => k29 s6 x1 x2 (x3 ||| (1 <<< (r5 &&& 31))) (x4 + 1))) else none))
noncomputable def kX10_drawn_29L : Nat → XS → Int32 → Int32 → Int32 → Int32 → Option (Int32 × XS)
  | 0, _, _, _, _, _ => none
  | n + 1, s, x1, x2, x3, x4 => kX10_drawn_29 (kX10_drawn_29L n) s x1 x2 x3 x4
noncomputable def kX10_drawn (s : XS) (x1 : Int32) (x2 : Int32) : Option (Int32 × XS) := (bindI (kX5_hasWave s.k x1) fun r2 s1 => (letS (XS.mk s.g s.t s.n s1) fun s3 => (if r2 = 0 then (some ((-1), s3)) else (if x2 < 1 then (some ((-1), s3)) else (if x2 ≤ 20 then kX10_drawn_29L fu s3 x1 x2 0 0 else (some ((-1), s3)))))))
noncomputable def kX10_fit_50 (s : XS) (t0 : Int32) (t1 : Int32) : Option (Int32 × XS) := (bindI (kX8_fitting s.k t1 t0) fun r2 s1 => (letS (XS.mk s.g s.t s.n s1) fun s3 => (some (r2, s3))))
noncomputable def kX10_fit (s : XS) (x1 : Int32) (x2 : Int32) (x3 : Int32) : Option (Int32 × XS) := (bindI (kX8_areSuch s.k x1 x2) fun r2 s1 => (letS (XS.mk s.g s.t s.n s1) fun s3 => (if r2 = 0 then (some ((-1), s3)) else (if x3 < 0 then (some ((-1), s3)) else (if x3 ≤ 1 then (bindP (kX8_believe (JS.mk s3.k s3.n) x1) fun s8 => (letS (XS.mk s3.g s3.t s8.d s8.k) fun s9 => (if x3 = 1 then kX10_fit_50 s9 1 x2 else kX10_fit_50 s9 0 x2))) else (some ((-1), s3)))))))
noncomputable def kX10_lie (s : XS) (x1 : Int32) (x2 : Int32) : Option (Int32 × XS) := (bindI (kX8_areSuch s.k x1 x2) fun r2 s1 => (letS (XS.mk s.g s.t s.n s1) fun s3 => (if r2 = 0 then (some ((-1), s3)) else (bindP (kX8_believe (JS.mk s3.k s3.n) x1) fun s6 => (letS (XS.mk s3.g s3.t s6.d s6.k) fun s7 => (bindI (kX8_liars s7.k x1 x2) fun r10 s9 => (letS (XS.mk s7.g s7.t s7.n s9) fun s11 => (some (r10, s11)))))))))
noncomputable def kX10_ask (s : XS) (x1 : Int32) (x2 : Int32) : Option (Int32 × XS) := (bindI (kX8_areSuch s.k x1 x2) fun r2 s1 => (letS (XS.mk s.g s.t s.n s1) fun s3 => (if r2 = 0 then (some ((-1), s3)) else (bindP (kX8_believe (JS.mk s3.k s3.n) x1) fun s6 => (letS (XS.mk s3.g s3.t s6.d s6.k) fun s7 => (bindI (kX8_waveToAsk s7.k x2) fun r10 s9 => (letS (XS.mk s7.g s7.t s7.n s9) fun s11 => (some (r10, s11)))))))))
noncomputable def kX0_thereNow (s : JS) (x2 : Int32) : Option (Int32 × JS) := (if vpb x2 5 then (bindI (kX5_thingThere s.k x2 ((s.d.f 2) (Int32.toNatClampNeg x2)) (s.k.v 4)) fun r3 s2 => (letS (JS.mk s2 s.d) fun s4 => (some (r3, s4)))) else none)
noncomputable def kX0_guessThere_13 (k13 : JS → Int32 → Int32 → Int32 → Option (Int32 × JS)) (s : JS) (x2 : Int32) (x3 : Int32) (x4 : Int32) : Option (Int32 × JS) := (if x4 < 0 then (some (x3, s)) else (if vpb x4 5 then (bindI (kX5_thingThere s.k x4 ((s.d.f 2) (Int32.toNatClampNeg x4)) x2) fun r4 s3 => (letS (JS.mk s3 s.d) fun s5 => k13 s5 x2 ((x3 * 6) + r4) (x4 + (-1)))) else none))
noncomputable def kX0_guessThere_13L : Nat → JS → Int32 → Int32 → Int32 → Option (Int32 × JS)
  | 0, _, _, _, _ => none
  | n + 1, s, x2, x3, x4 => kX0_guessThere_13 (kX0_guessThere_13L n) s x2 x3 x4
noncomputable def kX0_guessThere (s : JS) (x2 : Int32) : Option (Int32 × JS) := kX0_guessThere_13L fu s x2 0 ((s.k.v 1) - 1)
noncomputable def kX0_needOf (s : JS) (x2 : Int32) (x3 : Int32) (x4 : Int32) : Option (Int32 × JS) := (bindP (kX0_clearVars s) fun s1 => (bindP (kX0_setParty s1 x2) fun s2 => (bindP (kX0_setWave s2 x3) fun s3 => (bindI (kX5_oddsAt s3.k x3 x4) fun r5 s4 => (letS (JS.mk s4 s3.d) fun s6 => (letS (s6.sf 13 1 r5) fun s8 => (bindI (kX1_valueOf s8.k 0) fun r11 s10 => (letS (JS.mk s10 s8.d) fun s12 => (bindP (kX10_heldTo 9 r11) fun r14 => (some (r14, s12)))))))))))
noncomputable def kX0_isBearing (s : JS) (x2 : Int32) (x3 : Int32) (x4 : Int32) : Option (Int32 × JS) := (bindI (kX5_oddsAt s.k x3 x4) fun r2 s1 => (letS (JS.mk s1 s.d) fun s3 => (bindI (kX0_needOf s3 x2 x3 x4) fun r6 s5 => (if r2 < r6 then (some (0, s5)) else (some (1, s5))))))
noncomputable def kX0_fareOf (s : JS) (x2 : Int32) : Option (Int32 × JS) := (bindP (kX0_clearVars s) fun s1 => (bindP (kX0_setParty s1 x2) fun s2 => (bindI (kX1_valueOf s2.k 1) fun r4 s3 => (letS (JS.mk s3 s2.d) fun s5 => (bindP (kX10_heldTo 99 r4) fun r7 => (some (r7, s5)))))))
noncomputable def kX0_isDaring (s : JS) (x2 : Int32) : Option (Int32 × JS) := (bindP (kX0_clearVars s) fun s1 => (bindP (kX0_setParty s1 x2) fun s2 => (bindI (kX1_valueOf s2.k 2) fun r4 s3 => (letS (JS.mk s3 s2.d) fun s5 => (if r4 ≤ 0 then (some (0, s5)) else (some (1, s5)))))))
noncomputable def kX0_shiftsOf (s : JS) (x2 : Int32) : Option (Int32 × JS) := (bindP (kX0_clearVars s) fun s1 => (bindP (kX0_setWave s1 x2) fun s2 => (bindI (kX1_valueOf s2.k 3) fun r4 s3 => (letS (JS.mk s3 s2.d) fun s5 => (bindP (kX10_heldTo 100 r4) fun r7 => (some (r7, s5)))))))
noncomputable def kX0_sendBy_119 (s : JS) (x2 : Int32) (x4 : Int32) (x5 : Int32) : Option (Int32 × JS) := (if vpb x2 6 then (letS (s.dsf 3 (Int32.toNatClampNeg x2) x4) fun s2 => (if vpb x2 6 then (if vpb x2 6 then (letS (s2.dsf 4 (Int32.toNatClampNeg x2) (((s2.d.f 4) (Int32.toNatClampNeg x2)) + 1)) fun s6 => (some (x5, s6))) else none) else none)) else none)
noncomputable def kX0_sendBy_113 (k24 : JS → Int32 → Int32 → Int32 → Int32 → Int32 → Option (Int32 × JS)) (s : JS) (x2 : Int32) (x3 : Int32) (x4 : Int32) (x5 : Int32) (x6 : Int32) : Option (Int32 × JS) := k24 s x2 x3 x4 x5 (x6 + 1)
noncomputable def kX0_sendBy_24 (k24 : JS → Int32 → Int32 → Int32 → Int32 → Int32 → Option (Int32 × JS)) (s : JS) (x2 : Int32) (x3 : Int32) (x4 : Int32) (x5 : Int32) (x6 : Int32) : Option (Int32 × JS) := (if (s.k.v 1) ≤ x6 then kX0_sendBy_119 s x2 x4 x5 else (if x4 = 2 then (bindP (kX10_thingIn x3 x6) fun r3 => (bindI (kX0_isBearing s x2 x6 r3) fun r5 s4 => (if r5 = 0 then kX0_sendBy_113 k24 s4 x2 x3 1 x5 x6 else (bindI (kX0_thereNow s4 x6) fun r8 s7 => (if r3 = r8 then (if vpb x6 5 then (letS (s7.dsf 0 (Int32.toNatClampNeg x6) r3) fun s11 => kX0_sendBy_113 k24 s11 x2 x3 x4 (x5 + 1) x6) else none) else (if vpb x6 5 then (if vpb x6 5 then (letS (s7.dsf 1 (Int32.toNatClampNeg x6) (((s7.d.f 1) (Int32.toNatClampNeg x6)) ||| (1 <<< (r3 &&& 31)))) fun s15 => kX0_sendBy_113 k24 s15 x2 x3 0 x5 x6) else none) else none)))))) else kX0_sendBy_119 s x2 x4 x5))
noncomputable def kX0_sendBy_24L : Nat → JS → Int32 → Int32 → Int32 → Int32 → Int32 → Option (Int32 × JS)
  | 0, _, _, _, _, _, _ => none
  | n + 1, s, x2, x3, x4, x5, x6 => kX0_sendBy_24 (kX0_sendBy_24L n) s x2 x3 x4 x5 x6
noncomputable def kX0_sendBy (s : JS) (x2 : Int32) (x3 : Int32) : Option (Int32 × JS) := (bindI (kX0_fareOf s x2) fun r2 s1 => (letS (s1.dsv 6 ((s.d.v 6) + r2)) fun s3 => kX0_sendBy_24L fu s3 x2 x3 2 0 0))
noncomputable def kX0_passYearOver (s : JS) (x2 : Int32) : Option JS := (bindP (kX10_lot 100 (s.k.v 4) (((8 * (s.d.v 5)) + 1000000) + x2)) fun r1 => (bindI (kX0_shiftsOf s x2) fun r3 s2 => (if r3 ≤ r1 then (some s2) else (if vpb x2 5 then (if vpb x2 5 then (letS (s2.dsf 2 (Int32.toNatClampNeg x2) (((s2.d.f 2) (Int32.toNatClampNeg x2)) + 1)) fun s7 => (if vpb x2 5 then (letS (s7.dsf 0 (Int32.toNatClampNeg x2) (-1)) fun s10 => (if vpb x2 5 then (letS (s10.dsf 1 (Int32.toNatClampNeg x2) 0) fun s13 => (some s13)) else none)) else none)) else none) else none))))
noncomputable def kX2_bestThing_63 (k9 : JS → Int32 → Int32 → Int32 → Int32 → Int32 → Option (Int32 × JS)) (s : JS) (x2 : Int32) (x3 : Int32) (x4 : Int32) (x5 : Int32) (x6 : Int32) : Option (Int32 × JS) := k9 s x2 x3 x4 x5 (x6 + 1)
noncomputable def kX2_bestThing_55 (k9 : JS → Int32 → Int32 → Int32 → Int32 → Int32 → Option (Int32 × JS)) (s : JS) (x2 : Int32) (x3 : Int32) (x6 : Int32) (x7 : Int32) : Option (Int32 × JS) := kX2_bestThing_63 k9 s x2 x3 x6 x7 x6
noncomputable def kX2_bestThing_9 (k9 : JS → Int32 → Int32 → Int32 → Int32 → Int32 → Option (Int32 × JS)) (s : JS) (x2 : Int32) (x3 : Int32) (x4 : Int32) (x5 : Int32) (x6 : Int32) : Option (Int32 × JS) := (if 6 ≤ x6 then (some (x4, s)) else (bindI (kX2_oddsIfMay s x3 x6) fun r3 s2 => (if r3 ≤ x5 then kX2_bestThing_63 k9 s2 x2 x3 x4 x5 x6 else (if x2 = (-1) then kX2_bestThing_55 k9 s2 x2 x3 x6 r3 else (bindI (kX0_needOf s2 x2 x3 x6) fun r7 s6 => (if r3 < r7 then kX2_bestThing_63 k9 s6 x2 x3 x4 x5 x6 else kX2_bestThing_55 k9 s6 x2 x3 x6 r3))))))
noncomputable def kX2_bestThing_9L : Nat → JS → Int32 → Int32 → Int32 → Int32 → Int32 → Option (Int32 × JS)
  | 0, _, _, _, _, _, _ => none
  | n + 1, s, x2, x3, x4, x5, x6 => kX2_bestThing_9 (kX2_bestThing_9L n) s x2 x3 x4 x5 x6
noncomputable def kX2_bestThing (s : JS) (x2 : Int32) (x3 : Int32) : Option (Int32 × JS) := kX2_bestThing_9L fu s x2 x3 (-1) 0 0
noncomputable def kX2_borneOver_3 (k3 : JS → Int32 → Int32 → Int32 → Option (Int32 × JS)) (s : JS) (x2 : Int32) (x3 : Int32) (x4 : Int32) : Option (Int32 × JS) := (if (s.k.v 1) ≤ x4 then (some (x4, s)) else (bindP (kX10_thingIn x3 x4) fun r2 => (bindI (kX0_isBearing s x2 x4 r2) fun r4 s3 => (if r4 = 0 then (some (x4, s3)) else k3 s3 x2 x3 (x4 + 1)))))
noncomputable def kX2_borneOver_3L : Nat → JS → Int32 → Int32 → Int32 → Option (Int32 × JS)
  | 0, _, _, _, _ => none
  | n + 1, s, x2, x3, x4 => kX2_borneOver_3 (kX2_borneOver_3L n) s x2 x3 x4
noncomputable def kX2_borneOver (s : JS) (x2 : Int32) (x3 : Int32) : Option (Int32 × JS) := kX2_borneOver_3L fu s x2 x3 0
noncomputable def kX4_readSum_32 (R : KS → Int32 → Option KS) (k7 : KS → Int32 → Int32 → Option KS) (s : KS) (x1 : Int32) (x2 : Int32) : Option KS := (if vpb (s.v 15) 401 then (bindP (kX4_take s ((s.f 32) (Int32.toNatClampNeg (s.v 15)))) fun s2 => (bindP (kX4_readProduct R s2 x1) fun s3 => (bindP (kX1_putSign s3 ((s.f 32) (Int32.toNatClampNeg (s.v 15)))) fun s4 => k7 s4 x1 (x2 + 1)))) else none)
noncomputable def kX4_readSum_7 (R : KS → Int32 → Option KS) (k7 : KS → Int32 → Int32 → Option KS) (s : KS) (x1 : Int32) (x2 : Int32) : Option KS := (if 400 ≤ x2 then (some s) else (bindI (kX4_isAt s 43) fun r3 s2 => (if r3 = 0 then (bindI (kX4_isAt s2 45) fun r6 s5 => (if r6 = 0 then (some s5) else kX4_readSum_32 R k7 s5 x1 x2)) else kX4_readSum_32 R k7 s2 x1 x2)))
noncomputable def kX4_readSum_7L (R : KS → Int32 → Option KS) : Nat → KS → Int32 → Int32 → Option KS
  | 0, _, _, _ => none
  | n + 1, s, x1, x2 => kX4_readSum_7 R (kX4_readSum_7L R n) s x1 x2
noncomputable def kX4_readSum (R : KS → Int32 → Option KS) (s : KS) (x1 : Int32) : Option KS := (bindP (kX4_readProduct R s x1) fun s1 => kX4_readSum_7L R fu s1 x1 0)
noncomputable def kX4_readSumR : Nat → KS → Int32 → Option KS
  | 0, _, _ => none
  | n + 1, s, x1 => kX4_readSum (kX4_readSumR n) s x1
noncomputable def kX10_wave (s : XS) (x1 : Int32) (x2 : Int32) : Option (Int32 × XS) := (bindI (kX5_hasWave s.k x1) fun r2 s1 => (letS (XS.mk s.g s.t s.n s1) fun s3 => (if r2 = 0 then (some ((-1), s3)) else (if x2 = 0 then (bindI (kX0_mayBe (JS.mk s3.k s3.n) x1) fun r8 s7 => (letS (XS.mk s3.g s3.t s7.d s7.k) fun s9 => (some (r8, s9)))) else (if x2 = 1 then (if vpb x1 5 then (if ((s3.n.f 0) (Int32.toNatClampNeg x1)) = (-1) then (some ((-2), s3)) else (if vpb x1 5 then (some (((s3.n.f 0) (Int32.toNatClampNeg x1)), s3)) else none)) else none) else (if x2 = 2 then (if vpb x1 5 then (some (((s3.n.f 1) (Int32.toNatClampNeg x1)), s3)) else none) else (if x2 = 3 then (if vpb x1 5 then (some (((s3.n.f 2) (Int32.toNatClampNeg x1)), s3)) else none) else (if x2 = 4 then (bindI (kX0_thereNow (JS.mk s3.k s3.n) x1) fun r21 s20 => (letS (XS.mk s3.g s3.t s20.d s20.k) fun s22 => (some (r21, s22)))) else (if x2 = 5 then (bindI (kX0_shiftsOf (JS.mk s3.k s3.n) x1) fun r26 s25 => (letS (XS.mk s3.g s3.t s25.d s25.k) fun s27 => (some (r26, s27)))) else (some ((-1), s3)))))))))))
noncomputable def kX10_party (s : XS) (x1 : Int32) (x2 : Int32) : Option (Int32 × XS) := (bindI (kX5_hasParty s.k x1) fun r2 s1 => (letS (XS.mk s.g s.t s.n s1) fun s3 => (if r2 = 0 then (some ((-1), s3)) else (if x2 = 0 then (if vpb x1 6 then (some (((s3.k.f 6) (Int32.toNatClampNeg x1)), s3)) else none) else (if x2 = 1 then (if vpb x1 6 then (some (((s3.k.f 7) (Int32.toNatClampNeg x1)), s3)) else none) else (if x2 = 2 then (if vpb x1 6 then (some (((s3.n.f 3) (Int32.toNatClampNeg x1)), s3)) else none) else (if x2 = 3 then (if vpb x1 6 then (some (((s3.n.f 4) (Int32.toNatClampNeg x1)), s3)) else none) else (if x2 = 4 then (bindI (kX0_fareOf (JS.mk s3.k s3.n) x1) fun r16 s15 => (letS (XS.mk s3.g s3.t s15.d s15.k) fun s17 => (some (r16, s17)))) else (if x2 = 5 then (bindI (kX0_isDaring (JS.mk s3.k s3.n) x1) fun r21 s20 => (letS (XS.mk s3.g s3.t s20.d s20.k) fun s22 => (if r21 = 0 then (some (0, s22)) else (some (1, s22))))) else (some ((-1), s3)))))))))))
noncomputable def kX10_needs (s : XS) (x1 : Int32) (x2 : Int32) (x3 : Int32) : Option (Int32 × XS) := (bindI (kX5_hasParty s.k x1) fun r2 s1 => (letS (XS.mk s.g s.t s.n s1) fun s3 => (if r2 = 0 then (some ((-1), s3)) else (bindI (kX5_hasWave s3.k x2) fun r7 s6 => (letS (XS.mk s3.g s3.t s3.n s6) fun s8 => (if r7 = 0 then (some ((-1), s8)) else (bindP (kX10_isThing x3) fun r11 => (if r11 = 0 then (some ((-1), s8)) else (bindI (kX0_needOf (JS.mk s8.k s8.n) x1 x2 x3) fun r14 s13 => (letS (XS.mk s8.g s8.t s13.d s13.k) fun s15 => (some (r14, s15))))))))))))
noncomputable def kX10_go (s : YS) (x1 : Int32) (x2 : Int32) : Option (Int32 × YS) := (bindI (kX10_isHere (XS.mk s.x.g s.x.t s.x.n s.x.k) x1) fun r2 s1 => (letS (YS.mk (XS.mk s1.g s1.t s1.n s1.k) s.r) fun s3 => (if r2 = 0 then (some ((-1), s3)) else (if (s3.x.k.v 1) = 0 then (some ((-1), s3)) else (bindI (kX5_hasGuess s3.x.k x2) fun r8 s7 => (letS (YS.mk (XS.mk s3.x.g s3.x.t s3.x.n s7) s3.r) fun s9 => (if r8 = 0 then (some ((-1), s9)) else (bindP (kX3_remember (PS.mk s9.x.g s9.x.n s9.r)) fun s12 => (letS (YS.mk (XS.mk s12.g s9.x.t s12.n s9.x.k) s12.r) fun s13 => (bindI (kX0_sendBy (JS.mk s13.x.k s13.x.n) x1 x2) fun r16 s15 => (letS (YS.mk (XS.mk s13.x.g s13.x.t s15.d s15.k) s13.r) fun s17 => (some (r16, s17)))))))))))))
noncomputable def kX10_bears (s : XS) (x1 : Int32) (x2 : Int32) : Option (Int32 × XS) := (bindI (kX5_hasParty s.k x1) fun r2 s1 => (letS (XS.mk s.g s.t s.n s1) fun s3 => (if r2 = 0 then (some ((-1), s3)) else (bindI (kX5_hasGuess s3.k x2) fun r7 s6 => (letS (XS.mk s3.g s3.t s3.n s6) fun s8 => (if r7 = 0 then (some ((-1), s8)) else (bindI (kX2_borneOver (JS.mk s8.k s8.n) x1 x2) fun r12 s11 => (letS (XS.mk s8.g s8.t s11.d s11.k) fun s13 => (some (r12, s13))))))))))
noncomputable def kX10_sunk_69 (k17 : XS → Int32 → Int32 → Int32 → Option (Int32 × XS)) (s : XS) (x1 : Int32) (x2 : Int32) (x3 : Int32) : Option (Int32 × XS) := k17 s x1 x2 (x3 + 1)
noncomputable def kX10_sunk_17 (k17 : XS → Int32 → Int32 → Int32 → Option (Int32 × XS)) (s : XS) (x1 : Int32) (x2 : Int32) (x3 : Int32) : Option (Int32 × XS) := (if (s.k.v 2) ≤ x3 then (some (x2, s)) else (if vpb x3 6 then (if ((s.n.f 3) (Int32.toNatClampNeg x3)) = 0 then (bindI (kX2_borneOver (JS.mk s.k s.n) x3 x1) fun r5 s4 => (letS (XS.mk s.g s.t s4.d s4.k) fun s6 => (if (s6.k.v 1) ≤ r5 then kX10_sunk_69 k17 s6 x1 x2 x3 else kX10_sunk_69 k17 s6 x1 (x2 ||| (1 <<< (x3 &&& 31))) x3))) else kX10_sunk_69 k17 s x1 x2 x3) else none))
noncomputable def kX10_sunk_17L : Nat → XS → Int32 → Int32 → Int32 → Option (Int32 × XS)
  | 0, _, _, _, _ => none
  | n + 1, s, x1, x2, x3 => kX10_sunk_17 (kX10_sunk_17L n) s x1 x2 x3
noncomputable def kX10_sunk (s : XS) (x1 : Int32) : Option (Int32 × XS) := (bindI (kX5_hasGuess s.k x1) fun r2 s1 => (letS (XS.mk s.g s.t s.n s1) fun s3 => (if r2 = 0 then (some ((-1), s3)) else kX10_sunk_17L fu s3 x1 0 0)))
noncomputable def kX10_dearest_59 (k20 : XS → Int32 → Int32 → Int32 → Int32 → Option (Int32 × XS)) (s : XS) (x1 : Int32) (x2 : Int32) (x3 : Int32) (x4 : Int32) : Option (Int32 × XS) := k20 s x1 x2 x3 (x4 + 1)
noncomputable def kX10_dearest_20 (k20 : XS → Int32 → Int32 → Int32 → Int32 → Option (Int32 × XS)) (s : XS) (x1 : Int32) (x2 : Int32) (x3 : Int32) (x4 : Int32) : Option (Int32 × XS) := (if (s.k.v 2) ≤ x4 then (if x1 = 0 then (some (x2, s)) else (some (x3, s))) else (bindI (kX0_fareOf (JS.mk s.k s.n) x4) fun r4 s3 => (letS (XS.mk s.g s.t s3.d s3.k) fun s5 => (if r4 ≤ x3 then kX10_dearest_59 k20 s5 x1 x2 x3 x4 else kX10_dearest_59 k20 s5 x1 x4 r4 x4))))
noncomputable def kX10_dearest_20L : Nat → XS → Int32 → Int32 → Int32 → Int32 → Option (Int32 × XS)
  | 0, _, _, _, _, _ => none
  | n + 1, s, x1, x2, x3, x4 => kX10_dearest_20 (kX10_dearest_20L n) s x1 x2 x3 x4
noncomputable def kX10_dearest_11 (s : XS) (x1 : Int32) : Option (Int32 × XS) := kX10_dearest_20L fu s x1 (-2) (-2) 0
noncomputable def kX10_dearest (s : XS) (x1 : Int32) : Option (Int32 × XS) := (if x1 = 0 then kX10_dearest_11 s x1 else (if x1 = 1 then kX10_dearest_11 s x1 else (some ((-1), s))))
noncomputable def kX10_darers_48 (k4 : XS → Int32 → Int32 → Option (Int32 × XS)) (s : XS) (x1 : Int32) (x2 : Int32) : Option (Int32 × XS) := k4 s x1 (x2 + 1)
noncomputable def kX10_darers_4 (k4 : XS → Int32 → Int32 → Option (Int32 × XS)) (s : XS) (x1 : Int32) (x2 : Int32) : Option (Int32 × XS) := (if (s.k.v 2) ≤ x2 then (some (x1, s)) else (if vpb x2 6 then (if ((s.n.f 3) (Int32.toNatClampNeg x2)) = 0 then (bindI (kX0_isDaring (JS.mk s.k s.n) x2) fun r5 s4 => (letS (XS.mk s.g s.t s4.d s4.k) fun s6 => (if r5 = 0 then kX10_darers_48 k4 s6 x1 x2 else kX10_darers_48 k4 s6 (x1 ||| (1 <<< (x2 &&& 31))) x2))) else kX10_darers_48 k4 s x1 x2) else none))
noncomputable def kX10_darers_4L : Nat → XS → Int32 → Int32 → Option (Int32 × XS)
  | 0, _, _, _ => none
  | n + 1, s, x1, x2 => kX10_darers_4 (kX10_darers_4L n) s x1 x2
noncomputable def kX10_darers (s : XS) : Option (Int32 × XS) := kX10_darers_4L fu s 0 0
noncomputable def kX10_year_63 (k29 : XS → Int32 → Int32 → Int32 → Int32 → Option (Int32 × XS)) (s : XS) (x1 : Int32) (x2 : Int32) (x3 : Int32) (x4 : Int32) : Option (Int32 × XS) := k29 s x1 x2 x3 (x4 + 1)
noncomputable def kX10_year_29 (k29 : XS → Int32 → Int32 → Int32 → Int32 → Option (Int32 × XS)) (s : XS) (x1 : Int32) (x2 : Int32) (x3 : Int32) (x4 : Int32) : Option (Int32 × XS) := (if x2 ≤ x4 then (some (x3, s)) else (bindI (kX0_guessThere (JS.mk s.k s.n) ((s.k.v 4) + x4)) fun r3 s2 => (letS (XS.mk s.g s.t s2.d s2.k) fun s4 => (if r3 = x1 then kX10_year_63 k29 s4 x1 x2 (x3 + 1) x4 else kX10_year_63 k29 s4 x1 x2 x3 x4))))
noncomputable def kX10_year_29L : Nat → XS → Int32 → Int32 → Int32 → Int32 → Option (Int32 × XS)
  | 0, _, _, _, _, _ => none
  | n + 1, s, x1, x2, x3, x4 => kX10_year_29 (kX10_year_29L n) s x1 x2 x3 x4
noncomputable def kX10_year (s : XS) (x1 : Int32) (x2 : Int32) : Option (Int32 × XS) := (bindI (kX5_hasGuess s.k x1) fun r2 s1 => (letS (XS.mk s.g s.t s.n s1) fun s3 => (if r2 = 0 then (some ((-1), s3)) else (if x2 < 1 then (some ((-1), s3)) else (if x2 ≤ 20 then kX10_year_29L fu s3 x1 x2 0 0 else (some ((-1), s3)))))))
noncomputable def kX10_faresOfAllHere_42 (k4 : XS → Int32 → Int32 → Option (Int32 × XS)) (s : XS) (x1 : Int32) (x2 : Int32) : Option (Int32 × XS) := k4 s x1 (x2 + 1)
noncomputable def kX10_faresOfAllHere_4 (k4 : XS → Int32 → Int32 → Option (Int32 × XS)) (s : XS) (x1 : Int32) (x2 : Int32) : Option (Int32 × XS) := (if (s.k.v 2) ≤ x2 then (some (x1, s)) else (if vpb x2 6 then (if ((s.n.f 3) (Int32.toNatClampNeg x2)) = 0 then (bindI (kX0_fareOf (JS.mk s.k s.n) x2) fun r5 s4 => (letS (XS.mk s.g s.t s4.d s4.k) fun s6 => kX10_faresOfAllHere_42 k4 s6 (x1 + r5) x2)) else kX10_faresOfAllHere_42 k4 s x1 x2) else none))
noncomputable def kX10_faresOfAllHere_4L : Nat → XS → Int32 → Int32 → Option (Int32 × XS)
  | 0, _, _, _ => none
  | n + 1, s, x1, x2 => kX10_faresOfAllHere_4 (kX10_faresOfAllHere_4L n) s x1 x2
noncomputable def kX10_faresOfAllHere (s : XS) : Option (Int32 × XS) := kX10_faresOfAllHere_4L fu s 0 0
noncomputable def kX0_passYears_10 (k2 : JS → Int32 → Int32 → Option JS) (k10 : JS → Int32 → Int32 → Int32 → Option JS) (s : JS) (x2 : Int32) (x3 : Int32) (x4 : Int32) : Option JS := (if (s.k.v 1) ≤ x4 then (letS (s.dsv 5 ((s.d.v 5) + 1)) fun s2 => k2 s2 x2 (x3 + 1)) else (bindP (kX0_passYearOver s x4) fun s4 => k10 s4 x2 x3 (x4 + 1)))
noncomputable def kX0_passYears_10L (k2 : JS → Int32 → Int32 → Option JS) : Nat → JS → Int32 → Int32 → Int32 → Option JS
  | 0, _, _, _, _ => none
  | n + 1, s, x2, x3, x4 => kX0_passYears_10 k2 (kX0_passYears_10L k2 n) s x2 x3 x4
noncomputable def kX0_passYears_2 (k2 : JS → Int32 → Int32 → Option JS) (s : JS) (x2 : Int32) (x3 : Int32) : Option JS := (if x2 ≤ x3 then (some s) else kX0_passYears_10L k2 fu s x2 x3 0)
noncomputable def kX0_passYears_2L : Nat → JS → Int32 → Int32 → Option JS
  | 0, _, _, _ => none
  | n + 1, s, x2, x3 => kX0_passYears_2 (kX0_passYears_2L n) s x2 x3
noncomputable def kX0_passYears (s : JS) (x2 : Int32) : Option JS := kX0_passYears_2L fu s x2 0
noncomputable def kX2_bestGuess_13 (k13 : JS → Int32 → Int32 → Int32 → Option (Int32 × JS)) (s : JS) (x2 : Int32) (x3 : Int32) (x4 : Int32) : Option (Int32 × JS) := (if x4 < 0 then (some (x3, s)) else (bindI (kX2_bestThing s x2 x4) fun r3 s2 => (if r3 = (-1) then (some ((-2), s2)) else k13 s2 x2 ((x3 * 6) + r3) (x4 + (-1)))))
noncomputable def kX2_bestGuess_13L : Nat → JS → Int32 → Int32 → Int32 → Option (Int32 × JS)
  | 0, _, _, _, _ => none
  | n + 1, s, x2, x3, x4 => kX2_bestGuess_13 (kX2_bestGuess_13L n) s x2 x3 x4
noncomputable def kX2_bestGuess (s : JS) (x2 : Int32) : Option (Int32 × JS) := kX2_bestGuess_13L fu s x2 0 ((s.k.v 1) - 1)
noncomputable def kX2_oddsOverWithin_158 (R : JS → Int32 → Int32 → Option (Int32 × JS)) (k55 : JS → Int32 → Int32 → Int32 → Int32 → Int32 → Int32 → Option (Int32 × JS)) (s : JS) (x2 : Int32) (x3 : Int32) (x4 : Int32) (x5 : Int32) (x6 : Int32) (x7 : Int32) : Option (Int32 × JS) := k55 s x2 x3 x4 x5 x6 (x7 + 1)
noncomputable def kX2_oddsOverWithin_129 (R : JS → Int32 → Int32 → Option (Int32 × JS)) (k55 : JS → Int32 → Int32 → Int32 → Int32 → Int32 → Int32 → Option (Int32 × JS)) (s : JS) (x2 : Int32) (x3 : Int32) (x4 : Int32) (x5 : Int32) (x6 : Int32) (x7 : Int32) (x8 : Int32) : Option (Int32 × JS) := (if vpb x7 5 then (if ((s.d.f 0) (Int32.toNatClampNeg x7)) = (-1) then (if vpb x7 5 then (letS (s.dsf 0 (Int32.toNatClampNeg x7) x8) fun s4 => kX2_oddsOverWithin_158 R k55 s4 x2 x3 x4 x5 (x6 ||| (1 <<< (x7 &&& 31))) x7) else none) else kX2_oddsOverWithin_158 R k55 s x2 x3 x4 x5 x6 x7) else none)
noncomputable def kX2_oddsOverWithin_55 (R : JS → Int32 → Int32 → Option (Int32 × JS)) (k55 : JS → Int32 → Int32 → Int32 → Int32 → Int32 → Int32 → Option (Int32 × JS)) (s : JS) (x2 : Int32) (x3 : Int32) (x4 : Int32) (x5 : Int32) (x6 : Int32) (x7 : Int32) : Option (Int32 × JS) := (if (s.k.v 1) ≤ x7 then (bindP (kX2_unfind s x6) fun s2 => (if vpb x2 6 then (if vpb x2 6 then (letS (s2.dsf 4 (Int32.toNatClampNeg x2) (((s2.d.f 4) (Int32.toNatClampNeg x2)) - 1)) fun s5 => (some (x5, s5))) else none) else none)) else (bindP (kX10_thingIn x4 x7) fun r7 => (bindI (kX2_mayCount s x7) fun r9 s8 => (if r9 ≤ 1 then kX2_oddsOverWithin_129 R k55 s8 x2 x3 x4 x5 x6 x7 r7 else (if vpb x7 5 then (if vpb x7 5 then (letS (s8.dsf 1 (Int32.toNatClampNeg x7) (((s8.d.f 1) (Int32.toNatClampNeg x7)) ^^^ (1 <<< (r7 &&& 31)))) fun s13 => (bindI (R s13 x2 (x3 - 1)) fun r16 s15 => (if vpb x7 5 then (if vpb x7 5 then (letS (s15.dsf 1 (Int32.toNatClampNeg x7) (((s15.d.f 1) (Int32.toNatClampNeg x7)) ^^^ (1 <<< (r7 &&& 31)))) fun s19 => kX2_oddsOverWithin_129 R k55 s19 x2 x3 x4 (x5 + r16) x6 x7 r7) else none) else none))) else none) else none)))))
noncomputable def kX2_oddsOverWithin_55L (R : JS → Int32 → Int32 → Option (Int32 × JS)) : Nat → JS → Int32 → Int32 → Int32 → Int32 → Int32 → Int32 → Option (Int32 × JS)
  | 0, _, _, _, _, _, _, _ => none
  | n + 1, s, x2, x3, x4, x5, x6, x7 => kX2_oddsOverWithin_55 R (kX2_oddsOverWithin_55L R n) s x2 x3 x4 x5 x6 x7
noncomputable def kX2_oddsOverWithin (R : JS → Int32 → Int32 → Option (Int32 × JS)) (s : JS) (x2 : Int32) (x3 : Int32) : Option (Int32 × JS) := (bindI (kX2_bestGuess s x2) fun r2 s1 => (if r2 = (-2) then (some (0, s1)) else (if 1 ≤ x3 then (bindI (kX2_oddsOf s1 r2) fun r6 s5 => (if x3 = 1 then (some (r6, s5)) else (if vpb x2 6 then (if vpb x2 6 then (letS (s5.dsf 4 (Int32.toNatClampNeg x2) (((s5.d.f 4) (Int32.toNatClampNeg x2)) + 1)) fun s10 => kX2_oddsOverWithin_55L R fu s10 x2 x3 r2 r6 0 0) else none) else none))) else (some (0, s1)))))
noncomputable def kX2_oddsOverWithinR : Nat → JS → Int32 → Int32 → Option (Int32 × JS)
  | 0, _, _, _ => none
  | n + 1, s, x2, x3 => kX2_oddsOverWithin (kX2_oddsOverWithinR n) s x2 x3
noncomputable def kX4_readPart (s : KS) (x1 : Int32) : Option KS := (bindP (kX4_readSumR 8 s 0) fun s1 => (bindP (kX1_endPart s1) fun s2 => (bindP (kX4_take s2 x1) fun s3 => (some s3))))
noncomputable def kX10_years (s : YS) (x1 : Int32) : Option (Int32 × YS) := (if x1 < 0 then (some ((-1), s)) else (if x1 ≤ 40 then (if x1 ≤ 0 then (some ((s.x.n.v 5), s)) else (bindP (kX3_remember (PS.mk s.x.g s.x.n s.r)) fun s4 => (letS (YS.mk (XS.mk s4.g s.x.t s4.n s.x.k) s4.r) fun s5 => (bindP (kX0_passYears (JS.mk s5.x.k s5.x.n) x1) fun s7 => (letS (YS.mk (XS.mk s5.x.g s5.x.t s7.d s7.k) s5.r) fun s8 => (some ((s8.x.n.v 5), s8))))))) else (some ((-1), s))))
noncomputable def kX10_likeliest (s : XS) : Option (Int32 × XS) := (bindI (kX2_bestGuess (JS.mk s.k s.n) (-1)) fun r2 s1 => (letS (XS.mk s.g s.t s1.d s1.k) fun s3 => (some (r2, s3))))
noncomputable def kX10_safest (s : XS) (x1 : Int32) : Option (Int32 × XS) := (bindI (kX5_hasParty s.k x1) fun r2 s1 => (letS (XS.mk s.g s.t s.n s1) fun s3 => (if r2 = 0 then (some ((-1), s3)) else (bindI (kX2_bestGuess (JS.mk s3.k s3.n) x1) fun r7 s6 => (letS (XS.mk s3.g s3.t s6.d s6.k) fun s8 => (some (r7, s8)))))))
noncomputable def kX10_sure (s : XS) (x1 : Int32) (x2 : Int32) : Option (Int32 × XS) := (bindI (kX10_isHere s x1) fun r2 s1 => (if r2 = 0 then (some ((-1), s1)) else (if (s1.k.v 1) = 0 then (some ((-1), s1)) else (if x2 < 1 then (some ((-1), s1)) else (if x2 ≤ 8 then (bindP (kX6_copyFrom (DS.mk s1.t s1.n)) fun s7 => (letS (XS.mk s1.g s7.d s7.e s1.k) fun s8 => (bindI (kX2_oddsOverWithinR 9 (JS.mk s8.k s8.t) x1 x2) fun r11 s10 => (letS (XS.mk s8.g s10.d s8.n s10.k) fun s12 => (some (r11, s12)))))) else (some ((-1), s1)))))))
noncomputable def kX10_stuck_50 (k4 : XS → Int32 → Int32 → Option (Int32 × XS)) (s : XS) (x1 : Int32) (x2 : Int32) : Option (Int32 × XS) := k4 s x1 (x2 + 1)
noncomputable def kX10_stuck_4 (k4 : XS → Int32 → Int32 → Option (Int32 × XS)) (s : XS) (x1 : Int32) (x2 : Int32) : Option (Int32 × XS) := (if (s.k.v 2) ≤ x2 then (some (x1, s)) else (if vpb x2 6 then (if ((s.n.f 3) (Int32.toNatClampNeg x2)) = 0 then (bindI (kX2_bestGuess (JS.mk s.k s.n) x2) fun r5 s4 => (letS (XS.mk s.g s.t s4.d s4.k) fun s6 => (if r5 = (-2) then kX10_stuck_50 k4 s6 (x1 ||| (1 <<< (x2 &&& 31))) x2 else kX10_stuck_50 k4 s6 x1 x2))) else kX10_stuck_50 k4 s x1 x2) else none))
noncomputable def kX10_stuck_4L : Nat → XS → Int32 → Int32 → Option (Int32 × XS)
  | 0, _, _, _ => none
  | n + 1, s, x1, x2 => kX10_stuck_4 (kX10_stuck_4L n) s x1 x2
noncomputable def kX10_stuck (s : XS) : Option (Int32 × XS) := kX10_stuck_4L fu s 0 0
noncomputable def kX10_chosen_86 (k7 : XS → Int32 → Int32 → Int32 → Option (Int32 × XS)) (s : XS) (x1 : Int32) (x2 : Int32) (x3 : Int32) : Option (Int32 × XS) := k7 s x1 x2 (x3 + 1)
noncomputable def kX10_chosen_73 (k7 : XS → Int32 → Int32 → Int32 → Option (Int32 × XS)) (s : XS) (x1 : Int32) (x2 : Int32) (x3 : Int32) (t0 : Int32) : Option (Int32 × XS) := (if t0 ≤ x2 then kX10_chosen_86 k7 s x1 x2 x3 else kX10_chosen_86 k7 s x3 t0 x3)
noncomputable def kX10_chosen_47 (k7 : XS → Int32 → Int32 → Int32 → Option (Int32 × XS)) (s : XS) (x1 : Int32) (x2 : Int32) (x3 : Int32) (t0 : Int32) : Option (Int32 × XS) := (if t0 = (-2) then kX10_chosen_73 k7 s x1 x2 x3 0 else (bindI (kX2_oddsOf (JS.mk s.k s.n) t0) fun r3 s2 => (letS (XS.mk s.g s.t s2.d s2.k) fun s4 => kX10_chosen_73 k7 s4 x1 x2 x3 r3)))
noncomputable def kX10_chosen_7 (k7 : XS → Int32 → Int32 → Int32 → Option (Int32 × XS)) (s : XS) (x1 : Int32) (x2 : Int32) (x3 : Int32) : Option (Int32 × XS) := (if (s.k.v 2) ≤ x3 then (some (x1, s)) else (if vpb x3 6 then (if ((s.n.f 3) (Int32.toNatClampNeg x3)) = 0 then (bindI (kX2_bestGuess (JS.mk s.k s.n) x3) fun r5 s4 => (letS (XS.mk s.g s.t s4.d s4.k) fun s6 => kX10_chosen_47 k7 s6 x1 x2 x3 r5)) else kX10_chosen_47 k7 s x1 x2 x3 (-2)) else none))
noncomputable def kX10_chosen_7L : Nat → XS → Int32 → Int32 → Int32 → Option (Int32 × XS)
  | 0, _, _, _, _ => none
  | n + 1, s, x1, x2, x3 => kX10_chosen_7 (kX10_chosen_7L n) s x1 x2 x3
noncomputable def kX10_chosen (s : XS) : Option (Int32 × XS) := kX10_chosen_7L fu s (-2) 0 0
noncomputable def kX10_allGo_136 (s : XS) (t0 : Int32) : Option (Int32 × XS) := (bindI (kX10_partiesThatAre_t s t0) fun r2 s1 => (bindP (kJ6_bitCount_0f7a4 r2) fun r3 => (some (r3, s1))))
noncomputable def kX10_allGo_95 (k24 : XS → Int32 → Int32 → Option (Int32 × XS)) (s : XS) (x1 : Int32) (x2 : Int32) : Option (Int32 × XS) := k24 s x1 (x2 + 1)
noncomputable def kX10_allGo_24 (k24 : XS → Int32 → Int32 → Option (Int32 × XS)) (s : XS) (x1 : Int32) (x2 : Int32) : Option (Int32 × XS) := (if (s.k.v 2) ≤ x2 then (if x1 = 2 then (some (((s.t.v 6) - (s.n.v 6)), s)) else (if x1 = 0 then kX10_allGo_136 s 2 else kX10_allGo_136 s 1)) else (if vpb x2 6 then (if ((s.t.f 3) (Int32.toNatClampNeg x2)) = 0 then (bindI (kX0_isDaring (JS.mk s.k s.t) x2) fun r7 s6 => (letS (XS.mk s.g s6.d s.n s6.k) fun s8 => (if r7 = 0 then kX10_allGo_95 k24 s8 x1 x2 else (bindI (kX2_bestGuess (JS.mk s8.k s8.t) x2) fun r12 s11 => (letS (XS.mk s8.g s11.d s8.n s11.k) fun s13 => (if r12 = (-2) then kX10_allGo_95 k24 s13 x1 x2 else (bindI (kX0_sendBy (JS.mk s13.k s13.t) x2 r12) fun r17 s16 => (letS (XS.mk s13.g s16.d s13.n s16.k) fun s18 => kX10_allGo_95 k24 s18 x1 x2)))))))) else kX10_allGo_95 k24 s x1 x2) else none))
noncomputable def kX10_allGo_24L : Nat → XS → Int32 → Int32 → Option (Int32 × XS)
  | 0, _, _, _ => none
  | n + 1, s, x1, x2 => kX10_allGo_24 (kX10_allGo_24L n) s x1 x2
noncomputable def kX10_allGo (s : XS) (x1 : Int32) : Option (Int32 × XS) := (if x1 < 0 then (some ((-1), s)) else (if x1 ≤ 2 then (bindP (kX6_copyFrom (DS.mk s.t s.n)) fun s3 => (letS (XS.mk s.g s3.d s3.e s.k) fun s4 => kX10_allGo_24L fu s4 x1 0)) else (some ((-1), s))))
noncomputable def kX10_then (s : XS) (x1 : Int32) (x2 : Int32) (x3 : Int32) : Option (Int32 × XS) := (bindI (kX5_hasWave s.k x1) fun r2 s1 => (letS (XS.mk s.g s.t s.n s1) fun s3 => (if r2 = 0 then (some ((-1), s3)) else (if x2 < 0 then (some ((-1), s3)) else (if x2 ≤ 40 then (bindP (kX6_copyFrom (DS.mk s3.t s3.n)) fun s8 => (letS (XS.mk s3.g s8.d s8.e s3.k) fun s9 => (bindP (kX0_passYears (JS.mk s9.k s9.t) x2) fun s11 => (letS (XS.mk s9.g s11.d s9.n s11.k) fun s12 => (if x3 = 0 then (bindI (kX0_mayBe (JS.mk s12.k s12.t) x1) fun r16 s15 => (letS (XS.mk s12.g s15.d s12.n s15.k) fun s17 => (some (r16, s17)))) else (if x3 = 1 then (if vpb x1 5 then (some (((s12.t.f 2) (Int32.toNatClampNeg x1)), s12)) else none) else (if x3 = 2 then (bindI (kX0_thereNow (JS.mk s12.k s12.t) x1) fun r23 s22 => (letS (XS.mk s12.g s22.d s12.n s22.k) fun s24 => (some (r23, s24)))) else (some ((-1), s12))))))))) else (some ((-1), s3)))))))
noncomputable def kX10_next_26 (k26 : XS → Int32 → Int32 → Option (Int32 × XS)) (s : XS) (x1 : Int32) (x2 : Int32) : Option (Int32 × XS) := (if 40 < x2 then (some ((-2), s)) else (bindP (kX0_passYears (JS.mk s.k s.t) 1) fun s2 => (letS (XS.mk s.g s2.d s.n s2.k) fun s3 => (if vpb x1 5 then (if vpb x1 5 then (if ((s3.t.f 2) (Int32.toNatClampNeg x1)) = ((s3.n.f 2) (Int32.toNatClampNeg x1)) then k26 s3 x1 (x2 + 1) else (some (x2, s3))) else none) else none))))
noncomputable def kX10_next_26L : Nat → XS → Int32 → Int32 → Option (Int32 × XS)
  | 0, _, _, _ => none
  | n + 1, s, x1, x2 => kX10_next_26 (kX10_next_26L n) s x1 x2
noncomputable def kX10_next (s : XS) (x1 : Int32) : Option (Int32 × XS) := (bindI (kX5_hasWave s.k x1) fun r2 s1 => (letS (XS.mk s.g s.t s.n s1) fun s3 => (if r2 = 0 then (some ((-1), s3)) else (bindP (kX6_copyFrom (DS.mk s3.t s3.n)) fun s6 => (letS (XS.mk s3.g s6.d s6.e s3.k) fun s7 => kX10_next_26L fu s7 x1 1)))))
noncomputable def kX10_count (s : XS) (x1 : Int32) : Option (Int32 × XS) := (if x1 = 0 then (some ((s.k.v 1), s)) else (if x1 = 1 then (some ((s.k.v 2), s)) else (if x1 = 2 then (some ((s.n.v 5), s)) else (if x1 = 3 then (some ((s.n.v 6), s)) else (if x1 = 4 then (bindI (kX10_partiesThatAre s 0) fun r7 s6 => (some (r7, s6))) else (if x1 = 5 then (bindI (kX10_partiesThatAre s 1) fun r10 s9 => (some (r10, s9))) else (if x1 = 6 then (bindI (kX10_partiesThatAre s 2) fun r13 s12 => (some (r13, s12))) else (if x1 = 7 then (bindI (kX10_sumOf_6 (s.n.f 4)) fun r16 s15 => (letS (s.nsa 4 s15) fun s17 => (some (r16, s17)))) else (if x1 = 8 then (some ((s.k.v 0), s)) else (if x1 = 9 then (some ((s.g.v 4), s)) else (if x1 = 10 then (some ((s.k.v 21), s)) else (if x1 = 11 then (bindI (kX3_slotsHeld s.g) fun r24 s23 => (letS (XS.mk s23 s.t s.n s.k) fun s25 => (some (r24, s25)))) else (if x1 = 12 then (bindI (kX10_buoysLying s) fun r29 s28 => (some (r29, s28))) else (if x1 = 13 then (bindI (kX10_wavesFound s) fun r32 s31 => (some (r32, s31))) else (if x1 = 14 then (some ((s.k.v 3), s)) else (if x1 = 15 then (bindI (kX0_guessThere (JS.mk s.k s.n) (s.k.v 4)) fun r36 s35 => (letS (XS.mk s.g s.t s35.d s35.k) fun s37 => (some (r36, s37)))) else (if x1 = 16 then (bindI (kX10_sumOf_5 (s.n.f 2)) fun r41 s40 => (letS (s.nsa 2 s40) fun s42 => (some (r41, s42)))) else (if x1 = 17 then (bindI (kX10_wavesWithNothing s) fun r46 s45 => (some (r46, s45))) else (if x1 = 18 then (bindI (kX10_faresOfAllHere s) fun r49 s48 => (some (r49, s48))) else (some ((-1), s)))))))))))))))))))))
noncomputable def kX4_readLaw_77 (s : KS) : Option KS := (bindP (kX4_readPart s 59) fun s1 => (some s1))
noncomputable def kX4_readLaw_44 (k19 : KS → Int32 → Option KS) (s : KS) (x2 : Int32) : Option KS := (bindP (kX4_take s 263) fun s1 => (bindP (kX4_readPart s1 60) fun s2 => (bindP (kX4_readPart s2 264) fun s3 => (bindP (kX4_readPart s3 265) fun s4 => k19 s4 (x2 + 1)))))
noncomputable def kX4_readLaw_19 (k19 : KS → Int32 → Option KS) (s : KS) (x2 : Int32) : Option KS := (if 4 < x2 then kX4_readLaw_77 s else (bindI (kX4_isAt s 263) fun r3 s2 => (if r3 = 0 then kX4_readLaw_77 s2 else (if x2 = 4 then (bindP (kX4_fail s2 2) fun s6 => kX4_readLaw_44 k19 s6 x2) else kX4_readLaw_44 k19 s2 x2))))
noncomputable def kX4_readLaw_19L : Nat → KS → Int32 → Option KS
  | 0, _, _ => none
  | n + 1, s, x2 => kX4_readLaw_19 (kX4_readLaw_19L n) s x2
noncomputable def kX4_readLaw (s : KS) (x1 : Int32) : Option KS := (bindP (kX4_take s 61) fun s1 => (bindP (kX1_begin s1 x1) fun s2 => kX4_readLaw_19L fu s2 0))
noncomputable def kX4_readTell_106 (s : KS) : Option KS := (bindP (kX4_fail s 1) fun s1 => (some s1))
noncomputable def kX4_readTell (s : KS) : Option KS := (if vpb (s.v 15) 401 then (if ((s.f 32) (Int32.toNatClampNeg (s.v 15))) = 256 then (bindP (kX4_readWave s) fun s16 => (some s16)) else (if ((s.f 32) (Int32.toNatClampNeg (s.v 15))) = 257 then (bindP (kX4_readParty s) fun s15 => (some s15)) else (if ((s.f 32) (Int32.toNatClampNeg (s.v 15))) = 262 then (bindP (kX4_take s 262) fun s9 => (bindI (kX4_takeInt s9 9999) fun r11 s10 => (letS (s10.sv 11 r11) fun s12 => (bindP (kX4_take s12 59) fun s14 => (some s14))))) else (if (((s.f 32) (Int32.toNatClampNeg (s.v 15))) - 258) < 0 then kX4_readTell_106 s else (if 4 ≤ (((s.f 32) (Int32.toNatClampNeg (s.v 15))) - 258) then kX4_readTell_106 s else (bindP (kX4_take s ((s.f 32) (Int32.toNatClampNeg (s.v 15)))) fun s7 => (bindP (kX4_readLaw s7 (((s.f 32) (Int32.toNatClampNeg (s.v 15))) - 258)) fun s8 => (some s8)))))))) else none)
noncomputable def kX4_readTape_98 (s : KS) : Option (Int32 × KS) := (if (s.v 16) = 0 then (bindP (kX5_addUp s) fun s2 => (some ((s2.v 16), s2))) else (some ((s.v 16), s)))
noncomputable def kX4_readTape_75 (s : KS) : Option (Int32 × KS) := (if (s.v 16) = 0 then (letS (s.sv 16 (s.v 18)) fun s2 => (letS (s2.sv 17 (s2.v 19)) fun s4 => kX4_readTape_98 s4)) else kX4_readTape_98 s)
noncomputable def kX4_readTape_41 (k41 : KS → Int32 → Option (Int32 × KS)) (s : KS) (x1 : Int32) : Option (Int32 × KS) := (if 400 < x1 then kX4_readTape_75 s else (if (s.v 16) = 0 then (bindI (kX4_isAt s 302) fun r4 s3 => (if r4 = 0 then (bindP (kX4_readTell s3) fun s6 => k41 s6 (x1 + 1)) else kX4_readTape_75 s3)) else kX4_readTape_75 s))
noncomputable def kX4_readTape_41L : Nat → KS → Int32 → Option (Int32 × KS)
  | 0, _, _ => none
  | n + 1, s, x1 => kX4_readTape_41 (kX4_readTape_41L n) s x1
noncomputable def kX4_readTape (s : KS) : Option (Int32 × KS) := (bindP (kX5_clear s) fun s1 => (letS (s1.sv 15 0) fun s2 => (letS (s2.sv 16 0) fun s4 => (letS (s4.sv 17 (-1)) fun s6 => (letS (s6.sv 18 0) fun s8 => (letS (s8.sv 19 (-1)) fun s10 => (bindP (kX9_split s10) fun s12 => kX4_readTape_41L fu s12 0)))))))
noncomputable def kX10_read (s : XS) : Option (Int32 × XS) := (bindI (kX4_readTape s.k) fun r2 s1 => (letS (XS.mk s.g s.t s.n s1) fun s3 => (letS (s3.sv 0 0) fun s5 => (if r2 = 0 then (bindP (kX5_copyFrom s5.k) fun s8 => (letS (XS.mk s5.g s5.t s5.n s8) fun s9 => (bindP (kX6_startOver s9.n) fun s11 => (letS (XS.mk s9.g s9.t s11 s9.k) fun s12 => (bindP (kX3_forgetAll s12.g) fun s14 => (letS (XS.mk s14 s12.t s12.n s12.k) fun s15 => (letS (s15.sv 21 0) fun s17 => (some (r2, s17))))))))) else (some (r2, s5))))))
theorem nwF_X0_106 : Cond.fieldLinkNest RX0 106 "GuessFerry$Standing" "paid" "I" "GuessFerry" ∈ tables_1 := List.mem_of_getElem? (i := 318) (by decide +kernel)
theorem nwF_X0_122 : Cond.fieldLinkNest RX0 122 "GuessFerry$Standing" "status" "[I" "GuessFerry" ∈ tables_1 := List.mem_of_getElem? (i := 309) (by decide +kernel)
theorem nwF_X0_15 : Cond.fieldLinkNest RX0 15 "GuessFerry$Sound" "laws" "LGuessFerry$Laws;" "GuessFerry" ∈ tables_1 := List.mem_of_getElem? (i := 129) (by decide +kernel)
theorem nwF_X0_28 : Cond.fieldLinkNest RX0 28 "GuessFerry$Standing" "found" "[I" "GuessFerry" ∈ tables_1 := List.mem_of_getElem? (i := 297) (by decide +kernel)
theorem nwF_X0_33 : Cond.fieldLinkNest RX0 33 "GuessFerry$Sound" "likely" "[I" "GuessFerry" ∈ tables_1 := List.mem_of_getElem? (i := 120) (by decide +kernel)
theorem nwF_X0_36 : Cond.fieldLinkNest RX0 36 "GuessFerry$Standing" "buoys" "[I" "GuessFerry" ∈ tables_1 := List.mem_of_getElem? (i := 301) (by decide +kernel)
theorem nwF_X0_39 : Cond.fieldLinkNest RX0 39 "GuessFerry$Standing" "shifted" "[I" "GuessFerry" ∈ tables_1 := List.mem_of_getElem? (i := 305) (by decide +kernel)
theorem nwF_X0_42 : Cond.fieldLinkNest RX0 42 "GuessFerry$Sound" "seed" "I" "GuessFerry" ∈ tables_1 := List.mem_of_getElem? (i := 144) (by decide +kernel)
theorem nwF_X0_50 : Cond.fieldLinkNest RX0 50 "GuessFerry$Sound" "waves" "I" "GuessFerry" ∈ tables_1 := List.mem_of_getElem? (i := 134) (by decide +kernel)
theorem nwF_X0_59 : Cond.fieldLinkNest RX0 59 "GuessFerry$Standing" "year" "I" "GuessFerry" ∈ tables_1 := List.mem_of_getElem? (i := 315) (by decide +kernel)
theorem nwF_X0_62 : Cond.fieldLinkNest RX0 62 "GuessFerry$Sound" "heavy" "[I" "GuessFerry" ∈ tables_1 := List.mem_of_getElem? (i := 122) (by decide +kernel)
theorem nwF_X0_65 : Cond.fieldLinkNest RX0 65 "GuessFerry$Sound" "nerve" "[I" "GuessFerry" ∈ tables_1 := List.mem_of_getElem? (i := 126) (by decide +kernel)
theorem nwF_X0_68 : Cond.fieldLinkNest RX0 68 "GuessFerry$Standing" "goes" "[I" "GuessFerry" ∈ tables_1 := List.mem_of_getElem? (i := 311) (by decide +kernel)
theorem nwF_X10_102 : Cond.fieldLinkNest RX10 102 "GuessFerry$Tellers" "told" "I" "GuessFerry" ∈ tables_1 := List.mem_of_getElem? (i := 414) (by decide +kernel)
theorem nwF_X10_105 : Cond.fieldLinkNest RX10 105 "GuessFerry$Reader" "faultPlace" "I" "GuessFerry" ∈ tables_1 := List.mem_of_getElem? (i := 270) (by decide +kernel)
theorem nwF_X10_115 : Cond.fieldLinkNest RX10 115 "GuessFerry$Standing" "found" "[I" "GuessFerry" ∈ tables_1 := List.mem_of_getElem? (i := 298) (by decide +kernel)
theorem nwF_X10_119 : Cond.fieldLinkNest RX10 119 "GuessFerry$Standing" "buoys" "[I" "GuessFerry" ∈ tables_1 := List.mem_of_getElem? (i := 302) (by decide +kernel)
theorem nwF_X10_122 : Cond.fieldLinkNest RX10 122 "GuessFerry$Standing" "shifted" "[I" "GuessFerry" ∈ tables_1 := List.mem_of_getElem? (i := 306) (by decide +kernel)
theorem nwF_X10_141 : Cond.fieldLinkNest RX10 141 "GuessFerry$Sound" "heavy" "[I" "GuessFerry" ∈ tables_1 := List.mem_of_getElem? (i := 123) (by decide +kernel)
theorem nwF_X10_144 : Cond.fieldLinkNest RX10 144 "GuessFerry$Sound" "nerve" "[I" "GuessFerry" ∈ tables_1 := List.mem_of_getElem? (i := 127) (by decide +kernel)
theorem nwF_X10_147 : Cond.fieldLinkNest RX10 147 "GuessFerry$Standing" "status" "[I" "GuessFerry" ∈ tables_1 := List.mem_of_getElem? (i := 308) (by decide +kernel)
theorem nwF_X10_150 : Cond.fieldLinkNest RX10 150 "GuessFerry$Standing" "goes" "[I" "GuessFerry" ∈ tables_1 := List.mem_of_getElem? (i := 312) (by decide +kernel)
theorem nwF_X10_167 : Cond.fieldLinkNest RX10 167 "GuessFerry$Sound" "waves" "I" "GuessFerry" ∈ tables_1 := List.mem_of_getElem? (i := 137) (by decide +kernel)
theorem nwF_X10_189 : Cond.fieldLinkNest RX10 189 "GuessFerry$Standing" "year" "I" "GuessFerry" ∈ tables_1 := List.mem_of_getElem? (i := 316) (by decide +kernel)
theorem nwF_X10_235 : Cond.fieldLinkNest RX10 235 "GuessFerry$Sound" "parties" "I" "GuessFerry" ∈ tables_1 := List.mem_of_getElem? (i := 140) (by decide +kernel)
theorem nwF_X10_241 : Cond.fieldLinkNest RX10 241 "GuessFerry$Standing" "paid" "I" "GuessFerry" ∈ tables_1 := List.mem_of_getElem? (i := 319) (by decide +kernel)
theorem nwF_X10_253 : Cond.fieldLinkNest RX10 253 "GuessFerry$Sound" "seed" "I" "GuessFerry" ∈ tables_1 := List.mem_of_getElem? (i := 146) (by decide +kernel)
theorem nwF_X10_293 : Cond.fieldLinkNest RX10 293 "GuessFerry$Past" "size" "I" "GuessFerry" ∈ tables_1 := List.mem_of_getElem? (i := 349) (by decide +kernel)
theorem nwF_X10_305 : Cond.fieldLinkNest RX10 305 "GuessFerry$Sound" "guesses" "I" "GuessFerry" ∈ tables_1 := List.mem_of_getElem? (i := 142) (by decide +kernel)
theorem nwF_X10_85 : Cond.fieldLinkNest RX10 85 "GuessFerry$Tape" "length" "I" "GuessFerry" ∈ tables_1 := List.mem_of_getElem? (i := 38) (by decide +kernel)
theorem nwF_X10_93 : Cond.fieldLinkNest RX10 93 "GuessFerry$Reader" "draft" "LGuessFerry$Sound;" "GuessFerry" ∈ tables_1 := List.mem_of_getElem? (i := 265) (by decide +kernel)
theorem nwF_X2_117 : Cond.fieldLinkNest RX2 117 "GuessFerry$Standing" "goes" "[I" "GuessFerry" ∈ tables_1 := List.mem_of_getElem? (i := 313) (by decide +kernel)
theorem nwF_X2_122 : Cond.fieldLinkNest RX2 122 "GuessFerry$Standing" "buoys" "[I" "GuessFerry" ∈ tables_1 := List.mem_of_getElem? (i := 303) (by decide +kernel)
theorem nwF_X2_128 : Cond.fieldLinkNest RX2 128 "GuessFerry$Standing" "found" "[I" "GuessFerry" ∈ tables_1 := List.mem_of_getElem? (i := 299) (by decide +kernel)
theorem nwF_X2_44 : Cond.fieldLinkNest RX2 44 "GuessFerry$Sound" "waves" "I" "GuessFerry" ∈ tables_1 := List.mem_of_getElem? (i := 133) (by decide +kernel)
theorem nwF_X4_100 : Cond.fieldLinkNest RX4 100 "GuessFerry$Sound" "waves" "I" "GuessFerry" ∈ tables_1 := List.mem_of_getElem? (i := 136) (by decide +kernel)
theorem nwF_X4_103 : Cond.fieldLinkNest RX4 103 "GuessFerry$Sound" "odds" "[I" "GuessFerry" ∈ tables_1 := List.mem_of_getElem? (i := 117) (by decide +kernel)
theorem nwF_X4_106 : Cond.fieldLinkNest RX4 106 "GuessFerry$Sound" "parties" "I" "GuessFerry" ∈ tables_1 := List.mem_of_getElem? (i := 139) (by decide +kernel)
theorem nwF_X4_113 : Cond.fieldLinkNest RX4 113 "GuessFerry$Sound" "heavy" "[I" "GuessFerry" ∈ tables_1 := List.mem_of_getElem? (i := 124) (by decide +kernel)
theorem nwF_X4_116 : Cond.fieldLinkNest RX4 116 "GuessFerry$Sound" "nerve" "[I" "GuessFerry" ∈ tables_1 := List.mem_of_getElem? (i := 128) (by decide +kernel)
theorem nwF_X4_119 : Cond.fieldLinkNest RX4 119 "GuessFerry$Sound" "laws" "LGuessFerry$Laws;" "GuessFerry" ∈ tables_1 := List.mem_of_getElem? (i := 131) (by decide +kernel)
theorem nwF_X4_63 : Cond.fieldLinkNest RX4 63 "GuessFerry$Tokens" "kinds" "[I" "GuessFerry" ∈ tables_1 := List.mem_of_getElem? (i := 240) (by decide +kernel)
theorem nwF_X4_67 : Cond.fieldLinkNest RX4 67 "GuessFerry$Tokens" "starts" "[I" "GuessFerry" ∈ tables_1 := List.mem_of_getElem? (i := 242) (by decide +kernel)
theorem nwF_X4_74 : Cond.fieldLinkNest RX4 74 "GuessFerry$Tokens" "values" "[J" "GuessFerry" ∈ tables_1 := List.mem_of_getElem? (i := 244) (by decide +kernel)
theorem nwF_X4_94 : Cond.fieldLinkNest RX4 94 "GuessFerry$Sound" "seed" "I" "GuessFerry" ∈ tables_1 := List.mem_of_getElem? (i := 145) (by decide +kernel)
theorem nwF_X8_39 : Cond.fieldLinkNest RX8 39 "GuessFerry$Sound" "waves" "I" "GuessFerry" ∈ tables_1 := List.mem_of_getElem? (i := 135) (by decide +kernel)
theorem nwF_X9_61 : Cond.fieldLinkNest RX9 61 "GuessFerry$Tape" "length" "I" "GuessFerry" ∈ tables_1 := List.mem_of_getElem? (i := 39) (by decide +kernel)
theorem nwM_X0_112 : Cond.methodLinkNest RX0 112 yX10_thingIn "GuessFerry" ∈ tables_1 := List.mem_of_getElem? (i := 803) (by decide +kernel)
theorem nwM_X0_129 : Cond.methodLinkNest RX0 129 yX10_lot "GuessFerry" ∈ tables_1 := List.mem_of_getElem? (i := 836) (by decide +kernel)
theorem nwM_X0_46 : Cond.methodLinkNest RX0 46 yX5_thingThere "GuessFerry" ∈ tables_1 := List.mem_of_getElem? (i := 692) (by decide +kernel)
theorem nwM_X0_92 : Cond.methodLinkNest RX0 92 yX5_oddsAt "GuessFerry" ∈ tables_1 := List.mem_of_getElem? (i := 776) (by decide +kernel)
theorem nwM_X0_96 : Cond.methodLinkNest RX0 96 yX1_valueOf "GuessFerry" ∈ tables_1 := List.mem_of_getElem? (i := 723) (by decide +kernel)
theorem nwM_X0_99 : Cond.methodLinkNest RX0 99 yX10_heldTo "GuessFerry" ∈ tables_1 := List.mem_of_getElem? (i := 735) (by decide +kernel)
theorem nwM_X10_108 : Cond.methodLinkNest RX10 108 yX5_hasWave "GuessFerry" ∈ tables_1 := List.mem_of_getElem? (i := 680) (by decide +kernel)
theorem nwM_X10_111 : Cond.methodLinkNest RX10 111 yX0_mayBe "GuessFerry" ∈ tables_1 := List.mem_of_getElem? (i := 684) (by decide +kernel)
theorem nwM_X10_125 : Cond.methodLinkNest RX10 125 yX0_thereNow "GuessFerry" ∈ tables_1 := List.mem_of_getElem? (i := 688) (by decide +kernel)
theorem nwM_X10_128 : Cond.methodLinkNest RX10 128 yX0_shiftsOf "GuessFerry" ∈ tables_1 := List.mem_of_getElem? (i := 703) (by decide +kernel)
theorem nwM_X10_134 : Cond.methodLinkNest RX10 134 yX5_oddsAt "GuessFerry" ∈ tables_1 := List.mem_of_getElem? (i := 747) (by decide +kernel)
theorem nwM_X10_138 : Cond.methodLinkNest RX10 138 yX5_hasParty "GuessFerry" ∈ tables_1 := List.mem_of_getElem? (i := 752) (by decide +kernel)
theorem nwM_X10_153 : Cond.methodLinkNest RX10 153 yX0_fareOf "GuessFerry" ∈ tables_1 := List.mem_of_getElem? (i := 756) (by decide +kernel)
theorem nwM_X10_156 : Cond.methodLinkNest RX10 156 yX0_isDaring "GuessFerry" ∈ tables_1 := List.mem_of_getElem? (i := 764) (by decide +kernel)
theorem nwM_X10_160 : Cond.methodLinkNest RX10 160 yX0_needOf "GuessFerry" ∈ tables_1 := List.mem_of_getElem? (i := 772) (by decide +kernel)
theorem nwM_X10_170 : Cond.methodLinkNest RX10 170 yX5_hasGuess "GuessFerry" ∈ tables_1 := List.mem_of_getElem? (i := 785) (by decide +kernel)
theorem nwM_X10_173 : Cond.methodLinkNest RX10 173 yX3_remember "GuessFerry" ∈ tables_1 := List.mem_of_getElem? (i := 789) (by decide +kernel)
theorem nwM_X10_177 : Cond.methodLinkNest RX10 177 yX0_sendBy "GuessFerry" ∈ tables_1 := List.mem_of_getElem? (i := 798) (by decide +kernel)
theorem nwM_X10_185 : Cond.methodLinkNest RX10 185 yX0_passYears "GuessFerry" ∈ tables_1 := List.mem_of_getElem? (i := 827) (by decide +kernel)
theorem nwM_X10_192 : Cond.methodLinkNest RX10 192 yX3_takeBack "GuessFerry" ∈ tables_1 := List.mem_of_getElem? (i := 842) (by decide +kernel)
theorem nwM_X10_196 : Cond.methodLinkNest RX10 196 yX2_caseCount "GuessFerry" ∈ tables_1 := List.mem_of_getElem? (i := 850) (by decide +kernel)
theorem nwM_X10_200 : Cond.methodLinkNest RX10 200 yX2_oddsOf "GuessFerry" ∈ tables_1 := List.mem_of_getElem? (i := 864) (by decide +kernel)
theorem nwM_X10_203 : Cond.methodLinkNest RX10 203 yX2_oddsOfAll "GuessFerry" ∈ tables_1 := List.mem_of_getElem? (i := 879) (by decide +kernel)
theorem nwM_X10_206 : Cond.methodLinkNest RX10 206 yX2_bestGuess "GuessFerry" ∈ tables_1 := List.mem_of_getElem? (i := 887) (by decide +kernel)
theorem nwM_X10_209 : Cond.methodLinkNest RX10 209 yX2_borneOver "GuessFerry" ∈ tables_1 := List.mem_of_getElem? (i := 900) (by decide +kernel)
theorem nwM_X10_212 : Cond.methodLinkNest RX10 212 yX2_goesAtMost "GuessFerry" ∈ tables_1 := List.mem_of_getElem? (i := 913) (by decide +kernel)
theorem nwM_X10_215 : Cond.methodLinkNest RX10 215 yX2_leftBehind "GuessFerry" ∈ tables_1 := List.mem_of_getElem? (i := 921) (by decide +kernel)
theorem nwM_X10_218 : Cond.methodLinkNest RX10 218 yX2_wisestGuess "GuessFerry" ∈ tables_1 := List.mem_of_getElem? (i := 930) (by decide +kernel)
theorem nwM_X10_221 : Cond.methodLinkNest RX10 221 yX2_casesAheadOf "GuessFerry" ∈ tables_1 := List.mem_of_getElem? (i := 942) (by decide +kernel)
theorem nwM_X10_224 : Cond.methodLinkNest RX10 224 yX2_caseAtRank "GuessFerry" ∈ tables_1 := List.mem_of_getElem? (i := 963) (by decide +kernel)
theorem nwM_X10_227 : Cond.methodLinkNest RX10 227 yX6_copyFrom "GuessFerry" ∈ tables_1 := List.mem_of_getElem? (i := 980) (by decide +kernel)
theorem nwM_X10_229 : Cond.methodLinkNest RX10 229 yX2_oddsOverWithin "GuessFerry" ∈ tables_1 := List.mem_of_getElem? (i := 981) (by decide +kernel)
theorem nwM_X10_238 : Cond.methodLinkNest RX10 238 yX2_oddsApart "GuessFerry" ∈ tables_1 := List.mem_of_getElem? (i := 1009) (by decide +kernel)
theorem nwM_X10_256 : Cond.methodLinkNest RX10 256 yX0_guessThere "GuessFerry" ∈ tables_1 := List.mem_of_getElem? (i := 1050) (by decide +kernel)
theorem nwM_X10_259 : Cond.methodLinkNest RX10 259 yX5_thingThere "GuessFerry" ∈ tables_1 := List.mem_of_getElem? (i := 1058) (by decide +kernel)
theorem nwM_X10_263 : Cond.methodLinkNest RX10 263 yX8_add "GuessFerry" ∈ tables_1 := List.mem_of_getElem? (i := 1063) (by decide +kernel)
theorem nwM_X10_266 : Cond.methodLinkNest RX10 266 yX8_areSuch "GuessFerry" ∈ tables_1 := List.mem_of_getElem? (i := 1075) (by decide +kernel)
theorem nwM_X10_269 : Cond.methodLinkNest RX10 269 yX8_believe "GuessFerry" ∈ tables_1 := List.mem_of_getElem? (i := 1079) (by decide +kernel)
theorem nwM_X10_272 : Cond.methodLinkNest RX10 272 yX8_fitting "GuessFerry" ∈ tables_1 := List.mem_of_getElem? (i := 1090) (by decide +kernel)
theorem nwM_X10_276 : Cond.methodLinkNest RX10 276 yX8_liars "GuessFerry" ∈ tables_1 := List.mem_of_getElem? (i := 1111) (by decide +kernel)
theorem nwM_X10_279 : Cond.methodLinkNest RX10 279 yX8_waveToAsk "GuessFerry" ∈ tables_1 := List.mem_of_getElem? (i := 1123) (by decide +kernel)
theorem nwM_X10_282 : Cond.methodLinkNest RX10 282 yX3_keepIn "GuessFerry" ∈ tables_1 := List.mem_of_getElem? (i := 1132) (by decide +kernel)
theorem nwM_X10_286 : Cond.methodLinkNest RX10 286 yX3_goOnFrom "GuessFerry" ∈ tables_1 := List.mem_of_getElem? (i := 1140) (by decide +kernel)
theorem nwM_X10_296 : Cond.methodLinkNest RX10 296 yX3_slotsHeld "GuessFerry" ∈ tables_1 := List.mem_of_getElem? (i := 1151) (by decide +kernel)
theorem nwM_X10_74 : Cond.methodLinkNest RX10 74 yX6_startOver "GuessFerry" ∈ tables_1 := List.mem_of_getElem? (i := 432) (by decide +kernel)
theorem nwM_X10_77 : Cond.methodLinkNest RX10 77 yX7_hasRoomFor "GuessFerry" ∈ tables_1 := List.mem_of_getElem? (i := 471) (by decide +kernel)
theorem nwM_X10_81 : Cond.methodLinkNest RX10 81 yX7_addFour "GuessFerry" ∈ tables_1 := List.mem_of_getElem? (i := 475) (by decide +kernel)
theorem nwM_X10_89 : Cond.methodLinkNest RX10 89 yX4_readTape "GuessFerry" ∈ tables_1 := List.mem_of_getElem? (i := 487) (by decide +kernel)
theorem nwM_X10_96 : Cond.methodLinkNest RX10 96 yX5_copyFrom "GuessFerry" ∈ tables_1 := List.mem_of_getElem? (i := 656) (by decide +kernel)
theorem nwM_X10_99 : Cond.methodLinkNest RX10 99 yX3_forgetAll "GuessFerry" ∈ tables_1 := List.mem_of_getElem? (i := 668) (by decide +kernel)
theorem nwM_X2_32 : Cond.methodLinkNest RX2 32 yX0_mayBe "GuessFerry" ∈ tables_1 := List.mem_of_getElem? (i := 858) (by decide +kernel)
theorem nwM_X2_57 : Cond.methodLinkNest RX2 57 yX10_has "GuessFerry" ∈ tables_1 := List.mem_of_getElem? (i := 873) (by decide +kernel)
theorem nwM_X2_61 : Cond.methodLinkNest RX2 61 yX5_oddsAt "GuessFerry" ∈ tables_1 := List.mem_of_getElem? (i := 874) (by decide +kernel)
theorem nwM_X2_65 : Cond.methodLinkNest RX2 65 yX10_thingIn "GuessFerry" ∈ tables_1 := List.mem_of_getElem? (i := 868) (by decide +kernel)
theorem nwM_X2_71 : Cond.methodLinkNest RX2 71 yX0_needOf "GuessFerry" ∈ tables_1 := List.mem_of_getElem? (i := 895) (by decide +kernel)
theorem nwM_X2_75 : Cond.methodLinkNest RX2 75 yX0_isBearing "GuessFerry" ∈ tables_1 := List.mem_of_getElem? (i := 904) (by decide +kernel)
theorem nwM_X3_32 : Cond.methodLinkNest RX3 32 yX6_copyFrom "GuessFerry" ∈ tables_1 := List.mem_of_getElem? (i := 793) (by decide +kernel)
theorem nwM_X4_123 : Cond.methodLinkNest RX4 123 yX1_begin "GuessFerry" ∈ tables_1 := List.mem_of_getElem? (i := 624) (by decide +kernel)
theorem nwM_X4_134 : Cond.methodLinkNest RX4 134 yX1_endPart "GuessFerry" ∈ tables_1 := List.mem_of_getElem? (i := 647) (by decide +kernel)
theorem nwM_X4_140 : Cond.methodLinkNest RX4 140 yX1_putSign "GuessFerry" ∈ tables_1 := List.mem_of_getElem? (i := 643) (by decide +kernel)
theorem nwM_X4_146 : Cond.methodLinkNest RX4 146 yX1_putNumber "GuessFerry" ∈ tables_1 := List.mem_of_getElem? (i := 641) (by decide +kernel)
theorem nwM_X4_149 : Cond.methodLinkNest RX4 149 yX1_putVar "GuessFerry" ∈ tables_1 := List.mem_of_getElem? (i := 642) (by decide +kernel)
theorem nwM_X4_35 : Cond.methodLinkNest RX4 35 yX5_clear "GuessFerry" ∈ tables_1 := List.mem_of_getElem? (i := 491) (by decide +kernel)
theorem nwM_X4_50 : Cond.methodLinkNest RX4 50 yX9_split "GuessFerry" ∈ tables_1 := List.mem_of_getElem? (i := 492) (by decide +kernel)
theorem nwM_X4_60 : Cond.methodLinkNest RX4 60 yX5_addUp "GuessFerry" ∈ tables_1 := List.mem_of_getElem? (i := 648) (by decide +kernel)
theorem nwM_X5_50 : Cond.methodLinkNest RX5 50 yX1_clear "GuessFerry" ∈ tables_1 := List.mem_of_getElem? (i := 92) (by decide +kernel)
theorem nwM_X5_61 : Cond.methodLinkNest RX5 61 yX1_copyFrom "GuessFerry" ∈ tables_1 := List.mem_of_getElem? (i := 663) (by decide +kernel)
theorem nwM_X5_65 : Cond.methodLinkNest RX5 65 yX10_lot "GuessFerry" ∈ tables_1 := List.mem_of_getElem? (i := 696) (by decide +kernel)
theorem nwM_X8_44 : Cond.methodLinkNest RX8 44 yX0_mayBe "GuessFerry" ∈ tables_1 := List.mem_of_getElem? (i := 1083) (by decide +kernel)
theorem nwM_X8_50 : Cond.methodLinkNest RX8 50 yX10_has "GuessFerry" ∈ tables_1 := List.mem_of_getElem? (i := 1084) (by decide +kernel)
theorem nwM_X8_54 : Cond.methodLinkNest RX8 54 yX5_oddsAt "GuessFerry" ∈ tables_1 := List.mem_of_getElem? (i := 1085) (by decide +kernel)
theorem nwM_X9_65 : Cond.methodLinkNest RX9 65 yX7_byteAt "GuessFerry" ∈ tables_1 := List.mem_of_getElem? (i := 500) (by decide +kernel)
end
section
/-! ===== the places of a part of the world ===== -/
theorem zqs_0X {cB cI cJ cZ cS : ClassId} {a b b2 c0 : Nat → Nat} {rg sl : Nat → Option Nat} {s : XS} : ([17, 18, 19, 20, 21, 22, 23, 24, 25, 26, 27, 28, 29, 30, 31, 32, 33, 34, 35, 36, 37, 38, 39, 40, 41, 42, 43, 44, 45, 46, 47, 48, 49, 50, 51, 52, 53, 54, 55, 56, 57, 58, 59, 60, 61, 62, 63] : List Nat).map (fun i => (wX cB cI cJ cZ cS a b b2 c0 rg sl s)[i]?) = ((wK cB cI cJ cZ cS a s.k)).map some := rfl
theorem zqn_0 : va_nd [17, 18, 19, 20, 21, 22, 23, 24, 25, 26, 27, 28, 29, 30, 31, 32, 33, 34, 35, 36, 37, 38, 39, 40, 41, 42, 43, 44, 45, 46, 47, 48, 49, 50, 51, 52, 53, 54, 55, 56, 57, 58, 59, 60, 61, 62, 63] = true := by decide +kernel
theorem zqs_1X {cB cI cJ cZ cS : ClassId} {a b b2 c0 : Nat → Nat} {rg sl : Nat → Option Nat} {s : XS} : ([0, 1, 2, 3, 4, 5, 6, 7, 8, 9, 10, 11, 12, 13, 14, 15, 16] : List Nat).map (fun i => (wX cB cI cJ cZ cS a b b2 c0 rg sl s)[i]?) = ((wG cZ cS a b b2 c0 rg sl s.g) ++ (wD cI b2 s.t) ++ (wD cI b s.n)).map some := rfl
theorem zqn_1 : va_nd [0, 1, 2, 3, 4, 5, 6, 7, 8, 9, 10, 11, 12, 13, 14, 15, 16] = true := by decide +kernel
theorem zqd_0 : ∀ i ∈ ([0, 1, 2, 3, 4, 5, 6, 7, 8, 9, 10, 11, 12, 13, 14, 15, 16] : List Nat), i ∉ ([17, 18, 19, 20, 21, 22, 23, 24, 25, 26, 27, 28, 29, 30, 31, 32, 33, 34, 35, 36, 37, 38, 39, 40, 41, 42, 43, 44, 45, 46, 47, 48, 49, 50, 51, 52, 53, 54, 55, 56, 57, 58, 59, 60, 61, 62, 63] : List Nat) := by decide +kernel
theorem zqs_2X {cB cI cJ cZ cS : ClassId} {a b b2 c0 : Nat → Nat} {rg sl : Nat → Option Nat} {s : XS} : ([11, 12, 13, 14, 15, 16, 17, 18, 19, 20, 21, 22, 23, 24, 25, 26, 27, 28, 29, 30, 31, 32, 33, 34, 35, 36, 37, 38, 39, 40, 41, 42, 43, 44, 45, 46, 47, 48, 49, 50, 51, 52, 53, 54, 55, 56, 57, 58, 59, 60, 61, 62, 63] : List Nat).map (fun i => (wX cB cI cJ cZ cS a b b2 c0 rg sl s)[i]?) = ((wD cI b s.n) ++ (wK cB cI cJ cZ cS a s.k)).map some := rfl
theorem zqn_2 : va_nd [11, 12, 13, 14, 15, 16, 17, 18, 19, 20, 21, 22, 23, 24, 25, 26, 27, 28, 29, 30, 31, 32, 33, 34, 35, 36, 37, 38, 39, 40, 41, 42, 43, 44, 45, 46, 47, 48, 49, 50, 51, 52, 53, 54, 55, 56, 57, 58, 59, 60, 61, 62, 63] = true := by decide +kernel
theorem zqs_3X {cB cI cJ cZ cS : ClassId} {a b b2 c0 : Nat → Nat} {rg sl : Nat → Option Nat} {s : XS} : ([0, 1, 2, 3, 4, 5, 6, 7, 8, 9, 10] : List Nat).map (fun i => (wX cB cI cJ cZ cS a b b2 c0 rg sl s)[i]?) = ((wG cZ cS a b b2 c0 rg sl s.g) ++ (wD cI b2 s.t)).map some := rfl
theorem zqn_3 : va_nd [0, 1, 2, 3, 4, 5, 6, 7, 8, 9, 10] = true := by decide +kernel
theorem zqd_1 : ∀ i ∈ ([0, 1, 2, 3, 4, 5, 6, 7, 8, 9, 10] : List Nat), i ∉ ([11, 12, 13, 14, 15, 16, 17, 18, 19, 20, 21, 22, 23, 24, 25, 26, 27, 28, 29, 30, 31, 32, 33, 34, 35, 36, 37, 38, 39, 40, 41, 42, 43, 44, 45, 46, 47, 48, 49, 50, 51, 52, 53, 54, 55, 56, 57, 58, 59, 60, 61, 62, 63] : List Nat) := by decide +kernel
theorem zqn_4 : va_nd [19] = true := by decide +kernel
theorem zqn_5 : va_nd [0, 1, 2, 3, 4, 5, 6, 7, 8, 9, 10, 11, 12, 13, 14, 15, 16, 17, 18, 20, 21, 22, 23, 24, 25, 26, 27, 28, 29, 30, 31, 32, 33, 34, 35, 36, 37, 38, 39, 40, 41, 42, 43, 44, 45, 46, 47, 48, 49, 50, 51, 52] = true := by decide +kernel
theorem zqd_2 : ∀ i ∈ ([0, 1, 2, 3, 4, 5, 6, 7, 8, 9, 10, 11, 12, 13, 14, 15, 16, 17, 18, 20, 21, 22, 23, 24, 25, 26, 27, 28, 29, 30, 31, 32, 33, 34, 35, 36, 37, 38, 39, 40, 41, 42, 43, 44, 45, 46, 47, 48, 49, 50, 51, 52] : List Nat), i ∉ ([19] : List Nat) := by decide +kernel
theorem zqs_6J {cB cI cJ cZ cS : ClassId} {a b : Nat → Nat} {s : JS} : ([6, 7, 8, 9, 10, 11, 12, 13, 14, 15, 16, 17, 18, 19, 20, 21, 22, 23, 24, 25, 26, 27, 28, 29, 30, 31, 32, 33, 34, 35, 36, 37, 38, 39, 40, 41, 42, 43, 44, 45, 46, 47, 48, 49, 50, 51, 52] : List Nat).map (fun i => (wJ cB cI cJ cZ cS a b s)[i]?) = ((wK cB cI cJ cZ cS a s.k)).map some := rfl
theorem zqn_6 : va_nd [6, 7, 8, 9, 10, 11, 12, 13, 14, 15, 16, 17, 18, 19, 20, 21, 22, 23, 24, 25, 26, 27, 28, 29, 30, 31, 32, 33, 34, 35, 36, 37, 38, 39, 40, 41, 42, 43, 44, 45, 46, 47, 48, 49, 50, 51, 52] = true := by decide +kernel
theorem zqs_7J {cB cI cJ cZ cS : ClassId} {a b : Nat → Nat} {s : JS} : ([0, 1, 2, 3, 4, 5] : List Nat).map (fun i => (wJ cB cI cJ cZ cS a b s)[i]?) = ((wD cI b s.d)).map some := rfl
theorem zqn_7 : va_nd [0, 1, 2, 3, 4, 5] = true := by decide +kernel
theorem zqd_3 : ∀ i ∈ ([0, 1, 2, 3, 4, 5] : List Nat), i ∉ ([6, 7, 8, 9, 10, 11, 12, 13, 14, 15, 16, 17, 18, 19, 20, 21, 22, 23, 24, 25, 26, 27, 28, 29, 30, 31, 32, 33, 34, 35, 36, 37, 38, 39, 40, 41, 42, 43, 44, 45, 46, 47, 48, 49, 50, 51, 52] : List Nat) := by decide +kernel
theorem zqn_8 : va_nd [46] = true := by decide +kernel
theorem zqn_9 : va_nd [45] = true := by decide +kernel
theorem zqn_10 : va_nd [0, 1, 2, 3, 4, 5, 6, 7, 8, 9, 10, 11, 12, 13, 14, 15, 16, 17, 18, 19, 20, 21, 22, 23, 24, 25, 26, 27, 28, 29, 30, 31, 32, 33, 34, 35, 36, 37, 38, 39, 40, 41, 42, 43, 44, 45, 47, 48, 49, 50, 51, 52] = true := by decide +kernel
theorem zqd_4 : ∀ i ∈ ([0, 1, 2, 3, 4, 5, 6, 7, 8, 9, 10, 11, 12, 13, 14, 15, 16, 17, 18, 19, 20, 21, 22, 23, 24, 25, 26, 27, 28, 29, 30, 31, 32, 33, 34, 35, 36, 37, 38, 39, 40, 41, 42, 43, 44, 45, 47, 48, 49, 50, 51, 52] : List Nat), i ∉ ([46] : List Nat) := by decide +kernel
theorem zqn_11 : va_nd [0, 1, 2, 3, 4, 5, 6, 7, 8, 9, 10, 11, 12, 13, 14, 15, 16, 17, 18, 19, 20, 21, 22, 23, 24, 25, 26, 27, 28, 29, 30, 31, 32, 33, 34, 35, 36, 37, 38, 39, 40, 41, 42, 43, 44, 46, 47, 48, 49, 50, 51, 52] = true := by decide +kernel
theorem zqd_5 : ∀ i ∈ ([0, 1, 2, 3, 4, 5, 6, 7, 8, 9, 10, 11, 12, 13, 14, 15, 16, 17, 18, 19, 20, 21, 22, 23, 24, 25, 26, 27, 28, 29, 30, 31, 32, 33, 34, 35, 36, 37, 38, 39, 40, 41, 42, 43, 44, 46, 47, 48, 49, 50, 51, 52] : List Nat), i ∉ ([45] : List Nat) := by decide +kernel
theorem zqn_12 : va_nd [1] = true := by decide +kernel
theorem zqn_13 : va_nd [2] = true := by decide +kernel
theorem zqn_14 : va_nd [3] = true := by decide +kernel
theorem zqn_15 : va_nd [4] = true := by decide +kernel
theorem zqn_16 : va_nd [5] = true := by decide +kernel
theorem zqn_17 : va_nd [0, 2, 3, 4, 5] = true := by decide +kernel
theorem zqd_6 : ∀ i ∈ ([0, 2, 3, 4, 5] : List Nat), i ∉ ([1] : List Nat) := by decide +kernel
theorem zqn_18 : va_nd [0, 1, 3, 4, 5] = true := by decide +kernel
theorem zqd_7 : ∀ i ∈ ([0, 1, 3, 4, 5] : List Nat), i ∉ ([2] : List Nat) := by decide +kernel
theorem zqn_19 : va_nd [0, 1, 2, 4, 5] = true := by decide +kernel
theorem zqd_8 : ∀ i ∈ ([0, 1, 2, 4, 5] : List Nat), i ∉ ([3] : List Nat) := by decide +kernel
theorem zqn_20 : va_nd [0, 1, 2, 3, 5] = true := by decide +kernel
theorem zqd_9 : ∀ i ∈ ([0, 1, 2, 3, 5] : List Nat), i ∉ ([4] : List Nat) := by decide +kernel
theorem zqn_21 : va_nd [0, 1, 2, 3, 4] = true := by decide +kernel
theorem zqd_10 : ∀ i ∈ ([0, 1, 2, 3, 4] : List Nat), i ∉ ([5] : List Nat) := by decide +kernel
theorem zqn_22 : va_nd [0, 1, 2, 3, 4, 5, 6, 7, 8, 9, 10, 11, 12, 13, 14, 15, 16, 17, 18, 19, 20, 21, 22, 23, 24, 25, 26, 27, 28, 29, 30, 31, 32, 33, 34, 35, 36, 37, 38, 39, 40, 41, 42, 43, 44, 45] = true := by decide +kernel
theorem zqd_11 : ∀ i ∈ ([0, 1, 2, 3, 4, 5, 6, 7, 8, 9, 10, 11, 12, 13, 14, 15, 16, 17, 18, 19, 20, 21, 22, 23, 24, 25, 26, 27, 28, 29, 30, 31, 32, 33, 34, 35, 36, 37, 38, 39, 40, 41, 42, 43, 44, 45] : List Nat), i ∉ ([46] : List Nat) := by decide +kernel
theorem zqs_24X {cB cI cJ cZ cS : ClassId} {a b b2 c0 : Nat → Nat} {rg sl : Nat → Option Nat} {s : XS} : ([5, 6, 7, 8, 9, 10, 17, 18, 19, 20, 21, 22, 23, 24, 25, 26, 27, 28, 29, 30, 31, 32, 33, 34, 35, 36, 37, 38, 39, 40, 41, 42, 43, 44, 45, 46, 47, 48, 49, 50, 51, 52, 53, 54, 55, 56, 57, 58, 59, 60, 61, 62, 63] : List Nat).map (fun i => (wX cB cI cJ cZ cS a b b2 c0 rg sl s)[i]?) = ((wD cI b2 s.t) ++ (wK cB cI cJ cZ cS a s.k)).map some := rfl
theorem zqn_23 : va_nd [5, 6, 7, 8, 9, 10, 17, 18, 19, 20, 21, 22, 23, 24, 25, 26, 27, 28, 29, 30, 31, 32, 33, 34, 35, 36, 37, 38, 39, 40, 41, 42, 43, 44, 45, 46, 47, 48, 49, 50, 51, 52, 53, 54, 55, 56, 57, 58, 59, 60, 61, 62, 63] = true := by decide +kernel
theorem zqs_25X {cB cI cJ cZ cS : ClassId} {a b b2 c0 : Nat → Nat} {rg sl : Nat → Option Nat} {s : XS} : ([0, 1, 2, 3, 4, 11, 12, 13, 14, 15, 16] : List Nat).map (fun i => (wX cB cI cJ cZ cS a b b2 c0 rg sl s)[i]?) = ((wG cZ cS a b b2 c0 rg sl s.g) ++ (wD cI b s.n)).map some := rfl
theorem zqn_24 : va_nd [0, 1, 2, 3, 4, 11, 12, 13, 14, 15, 16] = true := by decide +kernel
theorem zqd_12 : ∀ i ∈ ([0, 1, 2, 3, 4, 11, 12, 13, 14, 15, 16] : List Nat), i ∉ ([5, 6, 7, 8, 9, 10, 17, 18, 19, 20, 21, 22, 23, 24, 25, 26, 27, 28, 29, 30, 31, 32, 33, 34, 35, 36, 37, 38, 39, 40, 41, 42, 43, 44, 45, 46, 47, 48, 49, 50, 51, 52, 53, 54, 55, 56, 57, 58, 59, 60, 61, 62, 63] : List Nat) := by decide +kernel
theorem zqs_26X {cB cI cJ cZ cS : ClassId} {a b b2 c0 : Nat → Nat} {rg sl : Nat → Option Nat} {s : XS} : ([11, 12, 13, 14, 15, 16, 5, 6, 7, 8, 9, 10] : List Nat).map (fun i => (wX cB cI cJ cZ cS a b b2 c0 rg sl s)[i]?) = ((wD cI b s.n) ++ (wD cI b2 s.t)).map some := rfl
theorem zqn_25 : va_nd [11, 12, 13, 14, 15, 16, 5, 6, 7, 8, 9, 10] = true := by decide +kernel
theorem zqs_27X {cB cI cJ cZ cS : ClassId} {a b b2 c0 : Nat → Nat} {rg sl : Nat → Option Nat} {s : XS} : ([0, 1, 2, 3, 4, 17, 18, 19, 20, 21, 22, 23, 24, 25, 26, 27, 28, 29, 30, 31, 32, 33, 34, 35, 36, 37, 38, 39, 40, 41, 42, 43, 44, 45, 46, 47, 48, 49, 50, 51, 52, 53, 54, 55, 56, 57, 58, 59, 60, 61, 62, 63] : List Nat).map (fun i => (wX cB cI cJ cZ cS a b b2 c0 rg sl s)[i]?) = ((wG cZ cS a b b2 c0 rg sl s.g) ++ (wK cB cI cJ cZ cS a s.k)).map some := rfl
theorem zqn_26 : va_nd [0, 1, 2, 3, 4, 17, 18, 19, 20, 21, 22, 23, 24, 25, 26, 27, 28, 29, 30, 31, 32, 33, 34, 35, 36, 37, 38, 39, 40, 41, 42, 43, 44, 45, 46, 47, 48, 49, 50, 51, 52, 53, 54, 55, 56, 57, 58, 59, 60, 61, 62, 63] = true := by decide +kernel
theorem zqd_13 : ∀ i ∈ ([0, 1, 2, 3, 4, 17, 18, 19, 20, 21, 22, 23, 24, 25, 26, 27, 28, 29, 30, 31, 32, 33, 34, 35, 36, 37, 38, 39, 40, 41, 42, 43, 44, 45, 46, 47, 48, 49, 50, 51, 52, 53, 54, 55, 56, 57, 58, 59, 60, 61, 62, 63] : List Nat), i ∉ ([11, 12, 13, 14, 15, 16, 5, 6, 7, 8, 9, 10] : List Nat) := by decide +kernel
theorem zqn_27 : va_nd [16] = true := by decide +kernel
theorem zqs_29X {cB cI cJ cZ cS : ClassId} {a b b2 c0 : Nat → Nat} {rg sl : Nat → Option Nat} {s : XS} : ([0, 1, 2, 3, 4] : List Nat).map (fun i => (wX cB cI cJ cZ cS a b b2 c0 rg sl s)[i]?) = ((wG cZ cS a b b2 c0 rg sl s.g)).map some := rfl
theorem zqn_28 : va_nd [14] = true := by decide +kernel
theorem zqn_29 : va_nd [0, 1, 2, 3, 4, 5, 6, 7, 8, 9, 10, 11, 12, 13, 14, 15, 17, 18, 19, 20, 21, 22, 23, 24, 25, 26, 27, 28, 29, 30, 31, 32, 33, 34, 35, 36, 37, 38, 39, 40, 41, 42, 43, 44, 45, 46, 47, 48, 49, 50, 51, 52, 53, 54, 55, 56, 57, 58, 59, 60, 61, 62, 63] = true := by decide +kernel
theorem zqd_14 : ∀ i ∈ ([0, 1, 2, 3, 4, 5, 6, 7, 8, 9, 10, 11, 12, 13, 14, 15, 17, 18, 19, 20, 21, 22, 23, 24, 25, 26, 27, 28, 29, 30, 31, 32, 33, 34, 35, 36, 37, 38, 39, 40, 41, 42, 43, 44, 45, 46, 47, 48, 49, 50, 51, 52, 53, 54, 55, 56, 57, 58, 59, 60, 61, 62, 63] : List Nat), i ∉ ([16] : List Nat) := by decide +kernel
theorem zqs_32X {cB cI cJ cZ cS : ClassId} {a b b2 c0 : Nat → Nat} {rg sl : Nat → Option Nat} {s : XS} : ([5, 6, 7, 8, 9, 10, 11, 12, 13, 14, 15, 16, 17, 18, 19, 20, 21, 22, 23, 24, 25, 26, 27, 28, 29, 30, 31, 32, 33, 34, 35, 36, 37, 38, 39, 40, 41, 42, 43, 44, 45, 46, 47, 48, 49, 50, 51, 52, 53, 54, 55, 56, 57, 58, 59, 60, 61, 62, 63] : List Nat).map (fun i => (wX cB cI cJ cZ cS a b b2 c0 rg sl s)[i]?) = ((wD cI b2 s.t) ++ (wD cI b s.n) ++ (wK cB cI cJ cZ cS a s.k)).map some := rfl
theorem zqn_30 : va_nd [5, 6, 7, 8, 9, 10, 11, 12, 13, 14, 15, 16, 17, 18, 19, 20, 21, 22, 23, 24, 25, 26, 27, 28, 29, 30, 31, 32, 33, 34, 35, 36, 37, 38, 39, 40, 41, 42, 43, 44, 45, 46, 47, 48, 49, 50, 51, 52, 53, 54, 55, 56, 57, 58, 59, 60, 61, 62, 63] = true := by decide +kernel
theorem zqd_15 : ∀ i ∈ ([5, 6, 7, 8, 9, 10, 11, 12, 13, 14, 15, 16, 17, 18, 19, 20, 21, 22, 23, 24, 25, 26, 27, 28, 29, 30, 31, 32, 33, 34, 35, 36, 37, 38, 39, 40, 41, 42, 43, 44, 45, 46, 47, 48, 49, 50, 51, 52, 53, 54, 55, 56, 57, 58, 59, 60, 61, 62, 63] : List Nat), i ∉ ([0, 1, 2, 3, 4] : List Nat) := by decide +kernel
theorem zqn_31 : va_nd [0, 1, 2, 3, 4, 5, 6, 7, 8, 9, 10, 11, 12, 13, 15, 16, 17, 18, 19, 20, 21, 22, 23, 24, 25, 26, 27, 28, 29, 30, 31, 32, 33, 34, 35, 36, 37, 38, 39, 40, 41, 42, 43, 44, 45, 46, 47, 48, 49, 50, 51, 52, 53, 54, 55, 56, 57, 58, 59, 60, 61, 62, 63] = true := by decide +kernel
theorem zqd_16 : ∀ i ∈ ([0, 1, 2, 3, 4, 5, 6, 7, 8, 9, 10, 11, 12, 13, 15, 16, 17, 18, 19, 20, 21, 22, 23, 24, 25, 26, 27, 28, 29, 30, 31, 32, 33, 34, 35, 36, 37, 38, 39, 40, 41, 42, 43, 44, 45, 46, 47, 48, 49, 50, 51, 52, 53, 54, 55, 56, 57, 58, 59, 60, 61, 62, 63] : List Nat), i ∉ ([14] : List Nat) := by decide +kernel
theorem zqn_32 : va_nd [5, 6, 7, 8, 9, 10, 11, 12, 13, 14, 15, 16] = true := by decide +kernel
theorem zqd_17 : ∀ i ∈ ([0, 1, 2, 3, 4] : List Nat), i ∉ ([5, 6, 7, 8, 9, 10, 11, 12, 13, 14, 15, 16] : List Nat) := by decide +kernel
theorem zqd_18 : ∀ i ∈ ([0, 1, 2, 3, 4] : List Nat), i ∉ ([11, 12, 13, 14, 15, 16, 5, 6, 7, 8, 9, 10] : List Nat) := by decide +kernel
theorem zqs_36Y {cB cI cJ cZ cS : ClassId} {a b b2 c0 : Nat → Nat} {bb : Nat → Nat → Nat} {s : YS} : ([17, 18, 19, 20, 21, 22, 23, 24, 25, 26, 27, 28, 29, 30, 31, 32, 33, 34, 35, 36, 37, 38, 39, 40, 41, 42, 43, 44, 45, 46, 47, 48, 49, 50, 51, 52, 53, 54, 55, 56, 57, 58, 59, 60, 61, 62, 63] : List Nat).map (fun i => (wY cB cI cJ cZ cS a b b2 c0 bb s)[i]?) = ((wK cB cI cJ cZ cS a s.x.k)).map some := rfl
theorem zqs_37Y {cB cI cJ cZ cS : ClassId} {a b b2 c0 : Nat → Nat} {bb : Nat → Nat → Nat} {s : YS} : ([0, 1, 2, 3, 4, 5, 6, 7, 8, 9, 10, 11, 12, 13, 14, 15, 16] : List Nat).map (fun i => (wY cB cI cJ cZ cS a b b2 c0 bb s)[i]?) = ((wG cZ cS a b b2 c0 (rgP bb) (slP bb) s.x.g) ++ (wD cI b2 s.x.t) ++ (wD cI b s.x.n)).map some := rfl
theorem zqs_38Y {cB cI cJ cZ cS : ClassId} {a b b2 c0 : Nat → Nat} {bb : Nat → Nat → Nat} {s : YS} : ([0, 1, 2, 3, 4, 11, 12, 13, 14, 15, 16] : List Nat).map (fun i => (wY cB cI cJ cZ cS a b b2 c0 bb s)[i]?) = ((wG cZ cS a b b2 c0 (rgP bb) (slP bb) s.x.g) ++ (wD cI b s.x.n)).map some := rfl
theorem zqs_39Y {cB cI cJ cZ cS : ClassId} {a b b2 c0 : Nat → Nat} {bb : Nat → Nat → Nat} {s : YS} : ([5, 6, 7, 8, 9, 10, 17, 18, 19, 20, 21, 22, 23, 24, 25, 26, 27, 28, 29, 30, 31, 32, 33, 34, 35, 36, 37, 38, 39, 40, 41, 42, 43, 44, 45, 46, 47, 48, 49, 50, 51, 52, 53, 54, 55, 56, 57, 58, 59, 60, 61, 62, 63] : List Nat).map (fun i => (wY cB cI cJ cZ cS a b b2 c0 bb s)[i]?) = ((wD cI b2 s.x.t) ++ (wK cB cI cJ cZ cS a s.x.k)).map some := rfl
theorem zqd_19 : ∀ i ∈ ([5, 6, 7, 8, 9, 10, 17, 18, 19, 20, 21, 22, 23, 24, 25, 26, 27, 28, 29, 30, 31, 32, 33, 34, 35, 36, 37, 38, 39, 40, 41, 42, 43, 44, 45, 46, 47, 48, 49, 50, 51, 52, 53, 54, 55, 56, 57, 58, 59, 60, 61, 62, 63] : List Nat), i ∉ ([0, 1, 2, 3, 4, 11, 12, 13, 14, 15, 16] : List Nat) := by decide +kernel
theorem zqn_33 : va_nd [0, 1, 2, 3, 4, 5, 6, 7, 8, 9, 10, 11, 12, 13, 14, 15, 16, 17, 18, 19, 20, 21, 22, 23, 24, 25, 26, 27, 28, 29, 30, 31, 32, 33, 34, 35, 36, 37, 38, 39, 40, 41, 42, 43, 44, 45, 46, 47, 48, 49, 50, 51, 52, 53, 54, 55, 56, 57, 58, 59, 60, 61, 62, 63] = true := by decide +kernel
theorem zqs_41Y {cB cI cJ cZ cS : ClassId} {a b b2 c0 : Nat → Nat} {bb : Nat → Nat → Nat} {s : YS} : ([11, 12, 13, 14, 15, 16, 17, 18, 19, 20, 21, 22, 23, 24, 25, 26, 27, 28, 29, 30, 31, 32, 33, 34, 35, 36, 37, 38, 39, 40, 41, 42, 43, 44, 45, 46, 47, 48, 49, 50, 51, 52, 53, 54, 55, 56, 57, 58, 59, 60, 61, 62, 63] : List Nat).map (fun i => (wY cB cI cJ cZ cS a b b2 c0 bb s)[i]?) = ((wD cI b s.x.n) ++ (wK cB cI cJ cZ cS a s.x.k)).map some := rfl
theorem zqs_42Y {cB cI cJ cZ cS : ClassId} {a b b2 c0 : Nat → Nat} {bb : Nat → Nat → Nat} {s : YS} : ([0, 1, 2, 3, 4, 5, 6, 7, 8, 9, 10] : List Nat).map (fun i => (wY cB cI cJ cZ cS a b b2 c0 bb s)[i]?) = ((wG cZ cS a b b2 c0 (rgP bb) (slP bb) s.x.g) ++ (wD cI b2 s.x.t)).map some := rfl
theorem zqs_43X {cB cI cJ cZ cS : ClassId} {a b b2 c0 : Nat → Nat} {rg sl : Nat → Option Nat} {s : XS} : ([11, 12, 13, 14, 15, 16] : List Nat).map (fun i => (wX cB cI cJ cZ cS a b b2 c0 rg sl s)[i]?) = ((wD cI b s.n)).map some := rfl
theorem zqn_34 : va_nd [11, 12, 13, 14, 15, 16] = true := by decide +kernel
theorem zqs_44X {cB cI cJ cZ cS : ClassId} {a b b2 c0 : Nat → Nat} {rg sl : Nat → Option Nat} {s : XS} : ([0, 1, 2, 3, 4, 5, 6, 7, 8, 9, 10, 17, 18, 19, 20, 21, 22, 23, 24, 25, 26, 27, 28, 29, 30, 31, 32, 33, 34, 35, 36, 37, 38, 39, 40, 41, 42, 43, 44, 45, 46, 47, 48, 49, 50, 51, 52, 53, 54, 55, 56, 57, 58, 59, 60, 61, 62, 63] : List Nat).map (fun i => (wX cB cI cJ cZ cS a b b2 c0 rg sl s)[i]?) = ((wG cZ cS a b b2 c0 rg sl s.g) ++ (wD cI b2 s.t) ++ (wK cB cI cJ cZ cS a s.k)).map some := rfl
theorem zqn_35 : va_nd [0, 1, 2, 3, 4, 5, 6, 7, 8, 9, 10, 17, 18, 19, 20, 21, 22, 23, 24, 25, 26, 27, 28, 29, 30, 31, 32, 33, 34, 35, 36, 37, 38, 39, 40, 41, 42, 43, 44, 45, 46, 47, 48, 49, 50, 51, 52, 53, 54, 55, 56, 57, 58, 59, 60, 61, 62, 63] = true := by decide +kernel
theorem zqd_20 : ∀ i ∈ ([0, 1, 2, 3, 4, 5, 6, 7, 8, 9, 10, 17, 18, 19, 20, 21, 22, 23, 24, 25, 26, 27, 28, 29, 30, 31, 32, 33, 34, 35, 36, 37, 38, 39, 40, 41, 42, 43, 44, 45, 46, 47, 48, 49, 50, 51, 52, 53, 54, 55, 56, 57, 58, 59, 60, 61, 62, 63] : List Nat), i ∉ ([11, 12, 13, 14, 15, 16] : List Nat) := by decide +kernel
end
