/-! ===== the uniform contract: a world of cells at given addresses, before and behind ===== -/
/-- a link to a nest mate's field or method -/
noncomputable def isNest (w : Cond) : Bool := match w with
  | .fieldLinkNest _ _ _ _ _ _ => true
  | .methodLinkNest _ _ _ _ => true
  | _ => false
/-- the nest mates' links of the tables -/
noncomputable def nw_ok (U : State) : Prop := ∀ w ∈ tables_1, isNest w = true → va_Nw w U
theorem nw_same {u U : State} (h : u.vm = U.vm) (hn : nw_ok u) : nw_ok U := by
  intro w hw hi
  have h1 := hn w hw hi
  cases w <;> first | (exact va_Nw.same rfl h h1) | (simp [isNest] at hi)
theorem nw_warm {s U : State} (hW : s.WarmedH U.vm) (hn : nw_ok s) : nw_ok U := by
  intro w hw hi
  have h1 := hn w hw hi
  cases w <;> first | (exact va_Nw.warmF hW h1) | (exact va_Nw.warmM hW h1) | (simp [isNest] at hi)
/-- the array classes -/
noncomputable abbrev tysA (cB cI cJ cZ cS : ClassId) : List (ClassId × FieldType) := [(cB, .byte), (cI, .int), (cJ, .long), (cZ, .boolean), (cS, .object "GuessFerry$Standing")]
noncomputable abbrev pre_W (D : va_G) (tys : List (ClassId × FieldType)) (sz : Nat) (w : va_W) : State → Prop := fun U => U.heap.size = sz ∧ va_P D vwCl w U.heap ∧ va_K D vwCl tys U ∧ va_D (fun _ => True) w ∧ nw_ok U
noncomputable abbrev at_W (D : va_G) (tys : List (ClassId × FieldType)) (A : Nat → Prop) (u : va_W) (t : State) : Prop := va_P D vwCl u t.heap ∧ va_K D vwCl tys t ∧ va_D A u
theorem blind_W {D : va_G} {tys : List (ClassId × FieldType)} {sz : Nat} {w : va_W} {as : List Value} : FrameBlind (va_Pc as (pre_W D tys sz w)) := fun a U g mk q => by
  obtain ⟨q0, q1, qP, qK, qD, qN⟩ := q
  exact ⟨q0, q1, qP, va_K.moved (u := U) (U := U.calling g mk a) (Vm.Alike.refl U.vm) qK, qD, nw_same (u := U) (U := U.calling g mk a) rfl qN⟩
/-- a contract that answers an int (a boolean) -/
noncomputable def CI (l : Launch) (y : MethodName) (ws : List Cond) (rm : Room) (D : va_G) (tys : List (ClassId × FieldType)) (w : va_W) (as : List Value) (post : Int32 → va_W → Prop) : Prop :=
  ∀ sz : Nat, Met l y ws rm (va_Pc as (pre_W D tys sz w)) (va_Qi post (at_W D tys (va_A w sz)) (va_A w sz)) rm.cells rm.slots (va_A w sz)
/-- a contract that answers a long -/
noncomputable def CL (l : Launch) (y : MethodName) (ws : List Cond) (rm : Room) (D : va_G) (tys : List (ClassId × FieldType)) (w : va_W) (as : List Value) (post : Int64 → va_W → Prop) : Prop :=
  ∀ sz : Nat, Met l y ws rm (va_Pc as (pre_W D tys sz w)) (va_Ql post (at_W D tys (va_A w sz)) (va_A w sz)) rm.cells rm.slots (va_A w sz)
/-- a contract that answers nothing -/
noncomputable def CV (l : Launch) (y : MethodName) (ws : List Cond) (rm : Room) (D : va_G) (tys : List (ClassId × FieldType)) (w : va_W) (as : List Value) (post : va_W → Prop) : Prop :=
  ∀ sz : Nat, Met l y ws rm (va_Pc as (pre_W D tys sz w)) (va_Qv post (at_W D tys (va_A w sz)) (va_A w sz)) rm.cells rm.slots (va_A w sz)
/-- what stands at a method's entry -/
noncomputable abbrev Ent (p : Program) (s : State) (m : MethodId) (meth : Method) (c : Code) (cc : ByteArray) (maxL : Nat) (ret : Option FieldType) (ws : List Cond) (y : MethodName) (D : va_G) (tys : List (ClassId × FieldType)) (w : va_W) (as : List Value) (A : Nat → Prop) (ls : Array Slot) : Prop :=
  CallFix p m c cc maxL s as.toArray ws y.cls ∧ meth.sig.returnType = ret ∧ meth.locks = false ∧ meth.name = y.name ∧ (∀ q, s.heap.size ≤ q → A q) ∧ va_P D vwCl w s.heap ∧ va_K D vwCl tys s ∧ va_D A w ∧ nw_ok s ∧ lv_has ls maxL (lv_args 0 as)
theorem open_I {l : Launch} {y : MethodName} {ws ws' : List Cond} {rm : Room} {D : va_G} {tys : List (ClassId × FieldType)} {w : va_W} {as : List Value} {post : Int32 → va_W → Prop} {cc : ByteArray} {maxL : Nat} {ret : Option FieldType}
    (hy : plainName y.cls = true) (hw : ws = Cond.code y cc maxL ret :: ws') (hn : (lg_sl as).length ≤ maxL)
    (body : ∀ (p : Program) (e : Env) (s : State) (m : MethodId) (below : List Frame) (meth : Method) (c : Code) (A : Nat → Prop) (ls : Array Slot), Ent p s m meth c cc maxL ret ws y D tys w as A ls →
      W p l e rm s m as.toArray below meth c s.heap [] 0 0 (MQ below (va_Qi post (at_W D tys A) A) as.toArray s rm.cells rm.slots A) (F0 m 0 ls [])) : CI l y ws rm D tys w as post := by
  intro sz
  refine Met.ofW (cc := cc) (maxL := maxL) (ret := ret) hy hw ?_
  intro p e s m args below meth c s₁ B hml hv
  obtain ⟨rfl, hsz, hP, hK, hD0, hN⟩ := hv
  subst hsz
  have hl := lv_entry as (n := maxL) hn
  rw [lg_entry_eq]
  generalize (lg_sl as ++ List.replicate (maxL - (lg_sl as).length) Slot.unset).toArray = ls at hl ⊢
  exact body p e s m below meth c _ ls ⟨⟨B.exec, B.bytes, hml, findClass_of_methodNamed B.named, atoms_spec (ws := ws) B.pre⟩, B.returns, B.notSynchronized, (name_of_methodNamed B.named B.method).1, fun q h => Or.inr h, hP, hK, hD0.self (sz := s.heap.size), hN, hl⟩
theorem open_L {l : Launch} {y : MethodName} {ws ws' : List Cond} {rm : Room} {D : va_G} {tys : List (ClassId × FieldType)} {w : va_W} {as : List Value} {post : Int64 → va_W → Prop} {cc : ByteArray} {maxL : Nat} {ret : Option FieldType}
    (hy : plainName y.cls = true) (hw : ws = Cond.code y cc maxL ret :: ws') (hn : (lg_sl as).length ≤ maxL)
    (body : ∀ (p : Program) (e : Env) (s : State) (m : MethodId) (below : List Frame) (meth : Method) (c : Code) (A : Nat → Prop) (ls : Array Slot), Ent p s m meth c cc maxL ret ws y D tys w as A ls →
      W p l e rm s m as.toArray below meth c s.heap [] 0 0 (MQ below (va_Ql post (at_W D tys A) A) as.toArray s rm.cells rm.slots A) (F0 m 0 ls [])) : CL l y ws rm D tys w as post := by
  intro sz
  refine Met.ofW (cc := cc) (maxL := maxL) (ret := ret) hy hw ?_
  intro p e s m args below meth c s₁ B hml hv
  obtain ⟨rfl, hsz, hP, hK, hD0, hN⟩ := hv
  subst hsz
  have hl := lv_entry as (n := maxL) hn
  rw [lg_entry_eq]
  generalize (lg_sl as ++ List.replicate (maxL - (lg_sl as).length) Slot.unset).toArray = ls at hl ⊢
  exact body p e s m below meth c _ ls ⟨⟨B.exec, B.bytes, hml, findClass_of_methodNamed B.named, atoms_spec (ws := ws) B.pre⟩, B.returns, B.notSynchronized, (name_of_methodNamed B.named B.method).1, fun q h => Or.inr h, hP, hK, hD0.self (sz := s.heap.size), hN, hl⟩
theorem open_V {l : Launch} {y : MethodName} {ws ws' : List Cond} {rm : Room} {D : va_G} {tys : List (ClassId × FieldType)} {w : va_W} {as : List Value} {post : va_W → Prop} {cc : ByteArray} {maxL : Nat} {ret : Option FieldType}
    (hy : plainName y.cls = true) (hw : ws = Cond.code y cc maxL ret :: ws') (hn : (lg_sl as).length ≤ maxL)
    (body : ∀ (p : Program) (e : Env) (s : State) (m : MethodId) (below : List Frame) (meth : Method) (c : Code) (A : Nat → Prop) (ls : Array Slot), Ent p s m meth c cc maxL ret ws y D tys w as A ls →
      W p l e rm s m as.toArray below meth c s.heap [] 0 0 (MQ below (va_Qv post (at_W D tys A) A) as.toArray s rm.cells rm.slots A) (F0 m 0 ls [])) : CV l y ws rm D tys w as post := by
  intro sz
  refine Met.ofW (cc := cc) (maxL := maxL) (ret := ret) hy hw ?_
  intro p e s m args below meth c s₁ B hml hv
  obtain ⟨rfl, hsz, hP, hK, hD0, hN⟩ := hv
  subst hsz
  have hl := lv_entry as (n := maxL) hn
  rw [lg_entry_eq]
  generalize (lg_sl as ++ List.replicate (maxL - (lg_sl as).length) Slot.unset).toArray = ls at hl ⊢
  exact body p e s m below meth c _ ls ⟨⟨B.exec, B.bytes, hml, findClass_of_methodNamed B.named, atoms_spec (ws := ws) B.pre⟩, B.returns, B.notSynchronized, (name_of_methodNamed B.named B.method).1, fun q h => Or.inr h, hP, hK, hD0.self (sz := s.heap.size), hN, hl⟩
theorem list_set_self {α : Type} {l : List α} {k : Nat} {x : α} (h : l[k]? = some x) : l.set k x = l := by
  apply List.ext_getElem?
  intro i
  rw [List.getElem?_set]
  split
  · rename_i h1; subst h1; split
    · exact h.symm
    · rename_i h2; rw [List.getElem?_eq_none (by omega)] at h; cases h
  · rfl
section QR
variable {p : Program} {l : Launch} {e : Env} {R : Room} {s : State} {m : MethodId} {args : Array Value} {below : List Frame} {meth : Method} {c : Code} {H H0 : Heap} {locs : List Loc} {cells slots : Nat} {Q : State → Prop} {cc : ByteArray} {pc nL : Nat} {ls : Array Slot} {rest : List Value} {Ts : List Cond} {own : String} {D : va_G} {tys : List (ClassId × FieldType)} {w : va_W} {A : Nat → Prop}
theorem q_top {x y : Int32} (h : x = y) (k : W p l e R s m args below meth c H locs cells slots Q (F0 m pc ls (.int y :: rest))) : W p l e R s m args below meth c H locs cells slots Q (F0 m pc ls (.int x :: rest)) := by
  subst h; exact k
theorem q_topl {x y : Int64} (h : x = y) (k : W p l e R s m args below meth c H locs cells slots Q (F0 m pc ls (.long y :: rest))) : W p l e R s m args below meth c H locs cells slots Q (F0 m pc ls (.long x :: rest)) := by
  subst h; exact k
/-- the ends -/
theorem q_iret {post : Int32 → va_W → Prop} {v : Int32} {mc ms : Nat} (C : CallFix p m c cc nL s args Ts own) (hr : meth.sig.returnType = some .int) (hlocks : meth.locks = false) (hK : va_K D vwCl tys s) (hP : va_P D vwCl w H) (hD : va_D A w) (hS : va_S A s.heap H locs) (h1 : cells ≤ mc) (h2 : slots ≤ ms) (hdg : decode cc pc = .ok (.ireturn, 1)) (hpost : post v w) :
    W p l e R s m args below meth c H locs cells slots (MQ below (va_Qi post (at_W D tys A) A) args s mc ms A) (F0 m pc ls [.int v]) :=
  W.widen h1 h2 (W.iret C.1 C.2.1 hr (fun t ht hW => ⟨⟨v, w, rfl, hpost, by rw [ht]; exact hP, va_K.moved hW.alike hK, hD⟩, hS.F ht⟩) hS.2.2 hdg hlocks)
theorem q_zret {post : Int32 → va_W → Prop} {v : Int32} {mc ms : Nat} (C : CallFix p m c cc nL s args Ts own) (hr : meth.sig.returnType = some .boolean) (hlocks : meth.locks = false) (hn : v = 0 ∨ v = 1) (hK : va_K D vwCl tys s) (hP : va_P D vwCl w H) (hD : va_D A w) (hS : va_S A s.heap H locs) (h1 : cells ≤ mc) (h2 : slots ≤ ms) (hdg : decode cc pc = .ok (.ireturn, 1)) (hpost : post v w) :
    W p l e R s m args below meth c H locs cells slots (MQ below (va_Qi post (at_W D tys A) A) args s mc ms A) (F0 m pc ls [.int v]) :=
  W.widen h1 h2 (W.zret C.1 C.2.1 hr (by rcases hn with h | h <;> subst h <;> decide +kernel) (fun t ht hW => ⟨⟨v, w, rfl, hpost, by rw [ht]; exact hP, va_K.moved hW.alike hK, hD⟩, hS.F ht⟩) hS.2.2 hdg hlocks)
theorem q_lret {post : Int64 → va_W → Prop} {v : Int64} {mc ms : Nat} (C : CallFix p m c cc nL s args Ts own) (hr : meth.sig.returnType = some .long) (hlocks : meth.locks = false) (hK : va_K D vwCl tys s) (hP : va_P D vwCl w H) (hD : va_D A w) (hS : va_S A s.heap H locs) (h1 : cells ≤ mc) (h2 : slots ≤ ms) (hdg : decode cc pc = .ok (.lreturn, 1)) (hpost : post v w) :
    W p l e R s m args below meth c H locs cells slots (MQ below (va_Ql post (at_W D tys A) A) args s mc ms A) (F0 m pc ls [.long v]) :=
  W.widen h1 h2 (W.lret C.1 C.2.1 hr (fun t ht hW => ⟨⟨v, w, rfl, hpost, by rw [ht]; exact hP, va_K.moved hW.alike hK, hD⟩, hS.F ht⟩) hS.2.2 hdg hlocks)
theorem q_vret {post : va_W → Prop} {mc ms : Nat} (C : CallFix p m c cc nL s args Ts own) (hr : meth.sig.returnType = none) (hlocks : meth.locks = false) (hK : va_K D vwCl tys s) (hP : va_P D vwCl w H) (hD : va_D A w) (hS : va_S A s.heap H locs) (h1 : cells ≤ mc) (h2 : slots ≤ ms) (hdg : decode cc pc = .ok (.return_, 1)) (hpost : post w) :
    W p l e R s m args below meth c H locs cells slots (MQ below (va_Qv post (at_W D tys A) A) args s mc ms A) (F0 m pc ls []) :=
  W.widen h1 h2 (W.vret C.1 C.2.1 hr (fun t ht hW => ⟨⟨w, rfl, hpost, by rw [ht]; exact hP, va_K.moved hW.alike hK, hD⟩, hS.F ht⟩) hS.2.2 hdg hlocks)
/-- fields -/
theorem q_get {Cn : String} {T : u_T} {N ci index a : Nat} {fs : List Value} {v : Value} (C : CallFix p m c cc nL s args Ts own) (hin : ∀ w ∈ u_ws Cn T N, w ∈ Ts) (hK : va_K D vwCl tys s) (hP : va_P D vwCl w H) (q0 : Nat) (he : w[q0]? = some (a, .inr (ci, fs))) (hc : vwCl[ci]? = some (Cn, T, N)) (k : Nat) (hk : k < N) (h1 : (T k).1 = Cn) (hlink : Cond.fieldLink own index Cn (T k).2.1 (T k).2.2.1 ∈ Ts) (hv : fs[k]? = some v) (hdg : decode cc pc = .ok (.getfield index, 3))
    (kk : W p l e R s m args below meth c H locs cells slots Q (F0 m (pc + 3) ls (v :: rest))) : W p l e R s m args below meth c H locs cells slots Q (F0 m pc ls (.ref a :: rest)) :=
  va_get (D := D) (ci := ci) (v := v) (C := Cn) (T := T) (N := N) C.1 C.2.1 C.2.2.2.2 hin C.2.2.2.1 hK hP q0 he hc k hk (C.2.2.2.2 _ hlink) (fun x h => h1 ▸ h) hv hdg kk
theorem q_getN {Cn host : String} {T : u_T} {N ci index a : Nat} {fs : List Value} {v : Value} (C : CallFix p m c cc nL s args Ts own) (hN : nw_ok s) (hin : ∀ w ∈ u_ws Cn T N, w ∈ Ts) (hK : va_K D vwCl tys s) (hP : va_P D vwCl w H) (q0 : Nat) (he : w[q0]? = some (a, .inr (ci, fs))) (hc : vwCl[ci]? = some (Cn, T, N)) (k : Nat) (hk : k < N) (h1 : (T k).1 = Cn) (hlink : Cond.fieldLinkNest own index Cn (T k).2.1 (T k).2.2.1 host ∈ tables_1) (hv : fs[k]? = some v) (hdg : decode cc pc = .ok (.getfield index, 3))
    (kk : W p l e R s m args below meth c H locs cells slots Q (F0 m (pc + 3) ls (v :: rest))) : W p l e R s m args below meth c H locs cells slots Q (F0 m pc ls (.ref a :: rest)) :=
  va_getN (D := D) (ci := ci) (v := v) (C := Cn) (T := T) (N := N) C.1 C.2.1 C.2.2.2.2 hin C.2.2.2.1 hK hP q0 he hc k hk (va_Nw.use rfl (hN _ hlink rfl)) (fun x h => h1 ▸ h) hv hdg kk
theorem q_put {Cn : String} {T : u_T} {N ci index a : Nat} {fs : List Value} {v : Value} {ty : FieldType} (ty0 : Nat → FieldType) (hty : ∀ k, k < N → parseFieldDescriptor (T k).2.2.1 = some (ty0 k)) (hnm : ∀ a, a < N → ∀ b, b < N → a ≠ b → (T a).2.1 ≠ (T b).2.1) (C : CallFix p m c cc nL s args Ts own) (hin : ∀ w ∈ u_ws Cn T N, w ∈ Ts) (hK : va_K D vwCl tys s) (hP : va_P D vwCl w H) (hD : va_D A w) (hS : va_S A H0 H locs) (q0 : Nat) (he : w[q0]? = some (a, .inr (ci, fs))) (hc : vwCl[ci]? = some (Cn, T, N)) (k : Nat) (hk : k < N) (h1 : (T k).1 = Cn) (hlink : Cond.fieldLink own index Cn (T k).2.1 (T k).2.2.1 ∈ Ts) (hfin : (T k).2.2.2 = false) (hd : parseFieldDescriptor (T k).2.2.1 = some ty) (hn : narrow ty v = v) (hfit : fits ty v = true) (hl : k < fs.length) (hdg : decode cc pc = .ok (.putfield index, 3))
    {w2 : va_W} (hw2 : w.set q0 (a, .inr (ci, fs.set k v)) = w2)
    (kk : ∀ (H1 : Heap) (locs1 : List Loc), va_P D vwCl w2 H1 → va_D A w2 → va_S A H0 H1 locs1 → W p l e R s m args below meth c H1 locs1 cells slots Q (F0 m (pc + 3) ls rest)) : W p l e R s m args below meth c H locs cells slots Q (F0 m pc ls (v :: .ref a :: rest)) := by
  subst hw2
  exact va_put (D := D) (ci := ci) (v := v) (ty := ty) (C := Cn) (T := T) (N := N) C.1 C.2.1 C.2.2.2.2 hin ty0 hty hnm C.2.2.2.1 hK hP hD hS q0 he hc k hk (C.2.2.2.2 _ hlink) (fun x h => h1 ▸ h) hfin hd hn hfit hl hdg kk
theorem q_putN {Cn host : String} {T : u_T} {N ci index a : Nat} {fs : List Value} {v : Value} {ty : FieldType} (ty0 : Nat → FieldType) (hty : ∀ k, k < N → parseFieldDescriptor (T k).2.2.1 = some (ty0 k)) (hnm : ∀ a, a < N → ∀ b, b < N → a ≠ b → (T a).2.1 ≠ (T b).2.1) (C : CallFix p m c cc nL s args Ts own) (hN : nw_ok s) (hin : ∀ w ∈ u_ws Cn T N, w ∈ Ts) (hK : va_K D vwCl tys s) (hP : va_P D vwCl w H) (hD : va_D A w) (hS : va_S A H0 H locs) (q0 : Nat) (he : w[q0]? = some (a, .inr (ci, fs))) (hc : vwCl[ci]? = some (Cn, T, N)) (k : Nat) (hk : k < N) (h1 : (T k).1 = Cn) (hlink : Cond.fieldLinkNest own index Cn (T k).2.1 (T k).2.2.1 host ∈ tables_1) (hfin : (T k).2.2.2 = false) (hd : parseFieldDescriptor (T k).2.2.1 = some ty) (hn : narrow ty v = v) (hfit : fits ty v = true) (hl : k < fs.length) (hdg : decode cc pc = .ok (.putfield index, 3))
    {w2 : va_W} (hw2 : w.set q0 (a, .inr (ci, fs.set k v)) = w2)
    (kk : ∀ (H1 : Heap) (locs1 : List Loc), va_P D vwCl w2 H1 → va_D A w2 → va_S A H0 H1 locs1 → W p l e R s m args below meth c H1 locs1 cells slots Q (F0 m (pc + 3) ls rest)) : W p l e R s m args below meth c H locs cells slots Q (F0 m pc ls (v :: .ref a :: rest)) := by
  subst hw2
  exact va_putN (D := D) (ci := ci) (v := v) (ty := ty) (C := Cn) (T := T) (N := N) C.1 C.2.1 C.2.2.2.2 hin ty0 hty hnm C.2.2.2.1 hK hP hD hS q0 he hc k hk (va_Nw.use rfl (hN _ hlink rfl)) (fun x h => h1 ▸ h) hfin hd hn hfit hl hdg kk
theorem q_putF {Cn : String} {T : u_T} {N ci index a : Nat} {fs : List Value} {v : Value} {ty : FieldType} (ty0 : Nat → FieldType) (hty : ∀ k, k < N → parseFieldDescriptor (T k).2.2.1 = some (ty0 k)) (hnm : ∀ a, a < N → ∀ b, b < N → a ≠ b → (T a).2.1 ≠ (T b).2.1) (C : CallFix p m c cc nL s args Ts own) (hin : ∀ w ∈ u_ws Cn T N, w ∈ Ts) (hK : va_K D vwCl tys s) (hP : va_P D vwCl w H) (hD : va_D A w) (hS : va_S A H0 H locs) (q0 : Nat) (he : w[q0]? = some (a, .inr (ci, fs))) (hc : vwCl[ci]? = some (Cn, T, N)) (k : Nat) (hk : k < N) (h1 : (T k).1 = Cn) (h3 : Cn = own) (hin2 : meth.name = "<init>") (hlink : Cond.fieldLink own index Cn (T k).2.1 (T k).2.2.1 ∈ Ts) (hfin : (T k).2.2.2 = true) (hd : parseFieldDescriptor (T k).2.2.1 = some ty) (hn : narrow ty v = v) (hfit : fits ty v = true) (hl : k < fs.length) (hdg : decode cc pc = .ok (.putfield index, 3))
    {w2 : va_W} (hw2 : w.set q0 (a, .inr (ci, fs.set k v)) = w2)
    (kk : ∀ (H1 : Heap) (locs1 : List Loc), va_P D vwCl w2 H1 → va_D A w2 → va_S A H0 H1 locs1 → W p l e R s m args below meth c H1 locs1 cells slots Q (F0 m (pc + 3) ls rest)) : W p l e R s m args below meth c H locs cells slots Q (F0 m pc ls (v :: .ref a :: rest)) := by
  subst hw2
  exact va_putF (D := D) (ci := ci) (v := v) (ty := ty) (C := Cn) (T := T) (N := N) C.1 C.2.1 C.2.2.2.2 hin ty0 hty hnm C.2.2.2.1 hK hP hD hS q0 he hc k hk (C.2.2.2.2 _ hlink) (fun x h => h1 ▸ h) hfin hin2 (h1.trans h3) hd hn hfit hl hdg kk
theorem q_putS {Cn : String} {T : u_T} {N ci index a : Nat} {fs : List Value} {v : Value} {ty : FieldType} (ty0 : Nat → FieldType) (hty : ∀ k, k < N → parseFieldDescriptor (T k).2.2.1 = some (ty0 k)) (hnm : ∀ a, a < N → ∀ b, b < N → a ≠ b → (T a).2.1 ≠ (T b).2.1) (C : CallFix p m c cc nL s args Ts own) (hin : ∀ w ∈ u_ws Cn T N, w ∈ Ts) (hK : va_K D vwCl tys s) (hP : va_P D vwCl w H) (hD : va_D A w) (hS : va_S A H0 H locs) (q0 : Nat) (he : w[q0]? = some (a, .inr (ci, fs))) (hc : vwCl[ci]? = some (Cn, T, N)) (k : Nat) (hk : k < N) (h1 : (T k).1 = Cn) (hlink : Cond.fieldLink own index Cn (T k).2.1 (T k).2.2.1 ∈ Ts) (hfin : (T k).2.2.2 = false) (hd : parseFieldDescriptor (T k).2.2.1 = some ty) (hn : narrow ty v = v) (hfit : fits ty v = true) (hl : k < fs.length) (hdg : decode cc pc = .ok (.putfield index, 3))
    (hsame : fs[k]? = some v)
    (kk : ∀ (H1 : Heap) (locs1 : List Loc), va_P D vwCl w H1 → va_D A w → va_S A H0 H1 locs1 → W p l e R s m args below meth c H1 locs1 cells slots Q (F0 m (pc + 3) ls rest)) : W p l e R s m args below meth c H locs cells slots Q (F0 m pc ls (v :: .ref a :: rest)) :=
  q_put ty0 hty hnm C hin hK hP hD hS q0 he hc k hk h1 hlink hfin hd hn hfit hl hdg (by rw [list_set_self hsame]; exact list_set_self he) kk
end QR
section QA
variable {p : Program} {l : Launch} {e : Env} {R : Room} {s : State} {m : MethodId} {args : Array Value} {below : List Frame} {meth : Method} {c : Code} {H H0 : Heap} {locs : List Loc} {cells slots : Nat} {Q : State → Prop} {cc : ByteArray} {pc nL : Nat} {ls : Array Slot} {rest : List Value} {Ts : List Cond} {own : String} {D : va_G} {tys : List (ClassId × FieldType)} {w : va_W} {A : Nat → Prop}
theorem vp_lit {i : Int32} {n : Nat} (h : (!decide (i < 0) && decide (i.toNatClampNeg < n)) = true) : vp_in i n := by
  simp at h
  intro q
  rcases q with q | q
  · exact absurd q (Int32.not_lt.mpr h.1)
  · omega
theorem q_iald {a : Nat} {cA : ClassId} {n : Nat} {f : Nat → Int32} {i x : Int32} (C : CallFix p m c cc nL s args Ts own) (hK : va_K D vwCl tys s) (hP : va_P D vwCl w H) (q0 t0 : Nat) (ha : w[q0]? = some (a, .inl (cA, n, .inl f))) (ht : tys[t0]? = some (cA, .int)) (hin : vp_in i n) (hdg : decode cc pc = .ok (.iaload, 1)) (hv : f i.toNatClampNeg = x) (kk : W p l e R s m args below meth c H locs cells slots Q (F0 m (pc + 1) ls (.int x :: rest))) : W p l e R s m args below meth c H locs cells slots Q (F0 m pc ls (.int i :: .ref a :: rest)) :=
  va_iald C.1 C.2.1 hK hP q0 t0 ha ht hin hdg (by rw [hv]; exact kk)
theorem q_bald {a : Nat} {cA : ClassId} {n : Nat} {f : Nat → Int32} {i x : Int32} (C : CallFix p m c cc nL s args Ts own) (hK : va_K D vwCl tys s) (hP : va_P D vwCl w H) (q0 t0 : Nat) (ha : w[q0]? = some (a, .inl (cA, n, .inl f))) (ht : tys[t0]? = some (cA, .byte)) (hin : vp_in i n) (hdg : decode cc pc = .ok (.baload, 1)) (hv : f i.toNatClampNeg = x) (kk : W p l e R s m args below meth c H locs cells slots Q (F0 m (pc + 1) ls (.int x :: rest))) : W p l e R s m args below meth c H locs cells slots Q (F0 m pc ls (.int i :: .ref a :: rest)) :=
  va_bald C.1 C.2.1 hK hP q0 t0 ha ht hin hdg (by rw [hv]; exact kk)
theorem q_zald {a : Nat} {cA : ClassId} {n : Nat} {f : Nat → Int32} {i x : Int32} (C : CallFix p m c cc nL s args Ts own) (hK : va_K D vwCl tys s) (hP : va_P D vwCl w H) (q0 t0 : Nat) (ha : w[q0]? = some (a, .inl (cA, n, .inl f))) (ht : tys[t0]? = some (cA, .boolean)) (hin : vp_in i n) (hdg : decode cc pc = .ok (.baload, 1)) (hv : f i.toNatClampNeg = x) (kk : W p l e R s m args below meth c H locs cells slots Q (F0 m (pc + 1) ls (.int x :: rest))) : W p l e R s m args below meth c H locs cells slots Q (F0 m pc ls (.int i :: .ref a :: rest)) :=
  va_zald C.1 C.2.1 hK hP q0 t0 ha ht hin hdg (by rw [hv]; exact kk)
theorem q_lald {a : Nat} {cA : ClassId} {n : Nat} {f : Nat → Int64} {i : Int32} {x : Int64} (C : CallFix p m c cc nL s args Ts own) (hK : va_K D vwCl tys s) (hP : va_P D vwCl w H) (q0 t0 : Nat) (ha : w[q0]? = some (a, .inl (cA, n, .inr (.inl f)))) (ht : tys[t0]? = some (cA, .long)) (hin : vp_in i n) (hdg : decode cc pc = .ok (.laload, 1)) (hv : f i.toNatClampNeg = x) (kk : W p l e R s m args below meth c H locs cells slots Q (F0 m (pc + 1) ls (.long x :: rest))) : W p l e R s m args below meth c H locs cells slots Q (F0 m pc ls (.int i :: .ref a :: rest)) :=
  va_lald C.1 C.2.1 hK hP q0 t0 ha ht hin hdg (by rw [hv]; exact kk)
theorem q_iast {a : Nat} {cA : ClassId} {n : Nat} {f : Nat → Int32} {i x : Int32} (C : CallFix p m c cc nL s args Ts own) (hK : va_K D vwCl tys s) (hP : va_P D vwCl w H) (hD : va_D A w) (hS : va_S A H0 H locs) (q0 t0 : Nat) (ha : w[q0]? = some (a, .inl (cA, n, .inl f))) (ht : tys[t0]? = some (cA, .int)) (hin : vp_in i n) (hdg : decode cc pc = .ok (.iastore, 1)) {f2 : Nat → Int32} (hf2 : upd f i.toNatClampNeg x = f2) {w2 : va_W} (hw2 : w.set q0 (a, .inl (cA, n, .inl f2)) = w2)
    (kk : ∀ (H1 : Heap) (locs1 : List Loc), va_P D vwCl w2 H1 → va_D A w2 → va_S A H0 H1 locs1 → W p l e R s m args below meth c H1 locs1 cells slots Q (F0 m (pc + 1) ls rest)) : W p l e R s m args below meth c H locs cells slots Q (F0 m pc ls (.int x :: .int i :: .ref a :: rest)) := by
  subst hf2; subst hw2
  exact va_iast C.1 C.2.1 hK hP hD hS q0 t0 ha ht hin hdg kk
theorem q_iastS {a : Nat} {cA : ClassId} {n : Nat} {f : Nat → Int32} {i x : Int32} (C : CallFix p m c cc nL s args Ts own) (hK : va_K D vwCl tys s) (hP : va_P D vwCl w H) (hD : va_D A w) (hS : va_S A H0 H locs) (q0 t0 : Nat) (ha : w[q0]? = some (a, .inl (cA, n, .inl f))) (ht : tys[t0]? = some (cA, .int)) (hin : vp_in i n) (hdg : decode cc pc = .ok (.iastore, 1)) (hsame : f i.toNatClampNeg = x)
    (kk : ∀ (H1 : Heap) (locs1 : List Loc), va_P D vwCl w H1 → va_D A w → va_S A H0 H1 locs1 → W p l e R s m args below meth c H1 locs1 cells slots Q (F0 m (pc + 1) ls rest)) : W p l e R s m args below meth c H locs cells slots Q (F0 m pc ls (.int x :: .int i :: .ref a :: rest)) :=
  q_iast C hK hP hD hS q0 t0 ha ht hin hdg (f2 := f) (by rw [← hsame]; funext j; unfold upd; split
                                                         · rename_i h; rw [h]
                                                         · rfl) (list_set_self ha) kk
theorem q_bast {a : Nat} {cA : ClassId} {n : Nat} {f : Nat → Int32} {i x : Int32} (C : CallFix p m c cc nL s args Ts own) (hK : va_K D vwCl tys s) (hP : va_P D vwCl w H) (hD : va_D A w) (hS : va_S A H0 H locs) (q0 t0 : Nat) (ha : w[q0]? = some (a, .inl (cA, n, .inl f))) (ht : tys[t0]? = some (cA, .byte)) (hin : vp_in i n) (hdg : decode cc pc = .ok (.bastore, 1)) {f2 : Nat → Int32} (hf2 : upd f i.toNatClampNeg (vp_nar .byte x) = f2) {w2 : va_W} (hw2 : w.set q0 (a, .inl (cA, n, .inl f2)) = w2)
    (kk : ∀ (H1 : Heap) (locs1 : List Loc), va_P D vwCl w2 H1 → va_D A w2 → va_S A H0 H1 locs1 → W p l e R s m args below meth c H1 locs1 cells slots Q (F0 m (pc + 1) ls rest)) : W p l e R s m args below meth c H locs cells slots Q (F0 m pc ls (.int x :: .int i :: .ref a :: rest)) := by
  subst hf2; subst hw2
  exact va_bast C.1 C.2.1 hK hP hD hS q0 t0 ha ht hin hdg kk
theorem q_bastS {a : Nat} {cA : ClassId} {n : Nat} {f : Nat → Int32} {i x : Int32} (C : CallFix p m c cc nL s args Ts own) (hK : va_K D vwCl tys s) (hP : va_P D vwCl w H) (hD : va_D A w) (hS : va_S A H0 H locs) (q0 t0 : Nat) (ha : w[q0]? = some (a, .inl (cA, n, .inl f))) (ht : tys[t0]? = some (cA, .byte)) (hin : vp_in i n) (hdg : decode cc pc = .ok (.bastore, 1)) (hsame : f i.toNatClampNeg = (vp_nar .byte x))
    (kk : ∀ (H1 : Heap) (locs1 : List Loc), va_P D vwCl w H1 → va_D A w → va_S A H0 H1 locs1 → W p l e R s m args below meth c H1 locs1 cells slots Q (F0 m (pc + 1) ls rest)) : W p l e R s m args below meth c H locs cells slots Q (F0 m pc ls (.int x :: .int i :: .ref a :: rest)) :=
  q_bast C hK hP hD hS q0 t0 ha ht hin hdg (f2 := f) (by rw [← hsame]; funext j; unfold upd; split
                                                         · rename_i h; rw [h]
                                                         · rfl) (list_set_self ha) kk
theorem q_zast {a : Nat} {cA : ClassId} {n : Nat} {f : Nat → Int32} {i x : Int32} (C : CallFix p m c cc nL s args Ts own) (hK : va_K D vwCl tys s) (hP : va_P D vwCl w H) (hD : va_D A w) (hS : va_S A H0 H locs) (q0 t0 : Nat) (ha : w[q0]? = some (a, .inl (cA, n, .inl f))) (ht : tys[t0]? = some (cA, .boolean)) (hin : vp_in i n) (hdg : decode cc pc = .ok (.bastore, 1)) {f2 : Nat → Int32} (hf2 : upd f i.toNatClampNeg (vp_nar .boolean x) = f2) {w2 : va_W} (hw2 : w.set q0 (a, .inl (cA, n, .inl f2)) = w2)
    (kk : ∀ (H1 : Heap) (locs1 : List Loc), va_P D vwCl w2 H1 → va_D A w2 → va_S A H0 H1 locs1 → W p l e R s m args below meth c H1 locs1 cells slots Q (F0 m (pc + 1) ls rest)) : W p l e R s m args below meth c H locs cells slots Q (F0 m pc ls (.int x :: .int i :: .ref a :: rest)) := by
  subst hf2; subst hw2
  exact va_zast C.1 C.2.1 hK hP hD hS q0 t0 ha ht hin hdg kk
theorem q_zastS {a : Nat} {cA : ClassId} {n : Nat} {f : Nat → Int32} {i x : Int32} (C : CallFix p m c cc nL s args Ts own) (hK : va_K D vwCl tys s) (hP : va_P D vwCl w H) (hD : va_D A w) (hS : va_S A H0 H locs) (q0 t0 : Nat) (ha : w[q0]? = some (a, .inl (cA, n, .inl f))) (ht : tys[t0]? = some (cA, .boolean)) (hin : vp_in i n) (hdg : decode cc pc = .ok (.bastore, 1)) (hsame : f i.toNatClampNeg = (vp_nar .boolean x))
    (kk : ∀ (H1 : Heap) (locs1 : List Loc), va_P D vwCl w H1 → va_D A w → va_S A H0 H1 locs1 → W p l e R s m args below meth c H1 locs1 cells slots Q (F0 m (pc + 1) ls rest)) : W p l e R s m args below meth c H locs cells slots Q (F0 m pc ls (.int x :: .int i :: .ref a :: rest)) :=
  q_zast C hK hP hD hS q0 t0 ha ht hin hdg (f2 := f) (by rw [← hsame]; funext j; unfold upd; split
                                                         · rename_i h; rw [h]
                                                         · rfl) (list_set_self ha) kk
theorem q_last {a : Nat} {cA : ClassId} {n : Nat} {f : Nat → Int64} {i : Int32} {x : Int64} (C : CallFix p m c cc nL s args Ts own) (hK : va_K D vwCl tys s) (hP : va_P D vwCl w H) (hD : va_D A w) (hS : va_S A H0 H locs) (q0 t0 : Nat) (ha : w[q0]? = some (a, .inl (cA, n, .inr (.inl f)))) (ht : tys[t0]? = some (cA, .long)) (hin : vp_in i n) (hdg : decode cc pc = .ok (.lastore, 1)) {f2 : Nat → Int64} (hf2 : vp_updL f i.toNatClampNeg x = f2) {w2 : va_W} (hw2 : w.set q0 (a, .inl (cA, n, .inr (.inl f2))) = w2)
    (kk : ∀ (H1 : Heap) (locs1 : List Loc), va_P D vwCl w2 H1 → va_D A w2 → va_S A H0 H1 locs1 → W p l e R s m args below meth c H1 locs1 cells slots Q (F0 m (pc + 1) ls rest)) : W p l e R s m args below meth c H locs cells slots Q (F0 m pc ls (.long x :: .int i :: .ref a :: rest)) := by
  subst hf2; subst hw2
  exact va_last C.1 C.2.1 hK hP hD hS q0 t0 ha ht hin hdg kk
theorem q_alen {a : Nat} {cA : ClassId} {x : vp_A} {ty : FieldType} {v : Int32} (C : CallFix p m c cc nL s args Ts own) (hK : va_K D vwCl tys s) (hP : va_P D vwCl w H) (q0 t0 : Nat) (ha : w[q0]? = some (a, .inl (cA, x))) (ht : tys[t0]? = some (cA, ty)) (hdg : decode cc pc = .ok (.arraylength, 1)) (hv : Int32.ofNat x.1 = v) (kk : W p l e R s m args below meth c H locs cells slots Q (F0 m (pc + 1) ls (.int v :: rest))) : W p l e R s m args below meth c H locs cells slots Q (F0 m pc ls (.ref a :: rest)) :=
  va_alen C.1 C.2.1 hK hP q0 t0 ha ht hv hdg kk
theorem fm_of_map {α : Type} {g : Nat → Option α} : ∀ {is : List Nat} {w : List α}, is.map g = w.map some → is.filterMap g = w := by
  intro is
  induction is with
  | nil =>
    intro w h
    cases w with
    | nil => rfl
    | cons b w => simp at h
  | cons i is ih =>
    intro w h
    cases w with
    | nil => simp at h
    | cons b w =>
      simp only [List.map_cons, List.cons.injEq] at h
      simp [List.filterMap_cons, h.1, ih h.2]
theorem q_lt (hP : va_P D vwCl w H) {k : Nat} {q : Nat × va_E} (hk : w[k]? = some q) : q.1 < H.size := by
  have h := hP k q hk
  unfold va_at at h
  split at h
  · exact (Array.getElem?_eq_some_iff.mp h).1
  · obtain ⟨r, -, cell, h1, -⟩ := h
    exact (Array.getElem?_eq_some_iff.mp h1).1
theorem q_freeF (hD : va_D A w) (hS : va_S A H0 H locs) (hA : ∀ q, H0.size ≤ q → A q) : ∀ q, va_A w H.size q → A q := by
  intro q h
  rcases h with ⟨k, e, h⟩ | h
  · exact hD.2 k (q, e) h
  · exact hA q (Nat.le_trans hS.1 h)
theorem q_preF {as : List Value} (hN : nw_ok s) (hK : va_K D vwCl tys s) (hP : va_P D vwCl w H) (hD : va_D A w) : PreS s H (va_Pc as (pre_W D tys H.size w)) as :=
  ⟨blind_W, fun U hU hW => ⟨rfl, by rw [hU], by rw [hU]; exact hP, va_K.moved hW.alike hK, hD.weaken (fun _ _ _ _ => trivial), nw_warm hW hN⟩⟩
theorem q_pre {as : List Value} {wc : va_W} (hN : nw_ok s) (hK : va_K D vwCl tys s) (hP : va_P D vwCl w H) (hD : va_D A w) (isC : List Nat) (hC : isC.map (fun i => w[i]?) = wc.map some) (hn : va_nd isC = true) : PreS s H (va_Pc as (pre_W D tys H.size wc)) as :=
  ⟨blind_W, fun U hU hW => ⟨rfl, by rw [hU], by rw [hU]; exact hP.sub isC (fm_of_map hC), va_K.moved hW.alike hK, (hD.sub isC hn hC).weaken (fun _ _ _ _ => trivial), nw_warm hW hN⟩⟩
theorem q_pre0 {as : List Value} (hN : nw_ok s) (hK : va_K D vwCl tys s) : PreS s H (va_Pc as (pre_W D tys H.size [])) as :=
  ⟨blind_W, fun U hU hW => ⟨rfl, by rw [hU], fun k q h => by simp at h, va_K.moved hW.alike hK, ⟨fun i j p q h => by simp at h, fun k q h => by simp at h⟩, nw_warm hW hN⟩⟩
theorem q_preV {Pc : Array Value → State → Prop} {Cn : String} {b : Nat} {As : List Value} {ci q0 : Nat} {q : vw_C} {fs : List Value} (hK : va_K D vwCl tys s) (hP : va_P D vwCl w H) (hc : vwCl[ci]? = some q) (he : w[q0]? = some (b, .inr (ci, fs))) (hq : q.1 = Cn) (h : PreS s H Pc (.ref b :: As)) : PreV s H Cn b Pc As :=
  ⟨h.1, by rw [← hq]; exact va_recv hK hP hc he, h.2⟩
theorem q_goiF {post : Int32 → va_W → Prop} {a : Array Value} {mc ms : Nat} {st : List Value} (hr : va_Run p l e R s m args below meth c H locs cells slots mc ms (F0 m pc ls st) rest (va_Qi post (at_W D tys (va_A w H.size)) (va_A w H.size) a) (va_A w H.size)) (hD : va_D A w) (hS : va_S A H0 H locs) (hA : ∀ q, H0.size ≤ q → A q)
    (kk : ∀ (r : Int32) (w1 : va_W) (H1 : Heap) (locs1 : List Loc), post r w1 → va_P D vwCl w1 H1 → va_D A w1 → va_S A H0 H1 locs1 → W p l e R s m args below meth c H1 locs1 (cells + mc) (slots + ms) Q (F0 m (pc + 3) ls (.int r :: rest))) : W p l e R s m args below meth c H locs cells slots Q (F0 m pc ls st) := by
  have hF := q_freeF hD hS hA
  exact va_calli hr hS (fun q _ h => hF q h) hF (fun r u t H1 locs1 ht hvm hw hB hz1 hk1 hS1 => kk r u H1 locs1 hw (by rw [← ht]; exact hB.1) (hB.2.2.weaken (fun _ q _ h => hF q.1 h)) hS1)
theorem q_goi {post : Int32 → va_W → Prop} {a : Array Value} {mc ms : Nat} {st : List Value} {wc wr : va_W} (hr : va_Run p l e R s m args below meth c H locs cells slots mc ms (F0 m pc ls st) rest (va_Qi post (at_W D tys (va_A wc H.size)) (va_A wc H.size) a) (va_A wc H.size)) (hP : va_P D vwCl w H) (hD : va_D A w) (hS : va_S A H0 H locs) (hA : ∀ q, H0.size ≤ q → A q) (isC isR : List Nat) (hC : isC.map (fun i => w[i]?) = wc.map some) (hR : isR.map (fun i => w[i]?) = wr.map some) (hn : va_nd isR = true) (hdis : ∀ i ∈ isR, i ∉ isC)
    (kk : ∀ (r : Int32) (w1 : va_W) (H1 : Heap) (locs1 : List Loc), post r w1 → va_P D vwCl (wr ++ w1) H1 → va_D A (wr ++ w1) → va_S A H0 H1 locs1 → W p l e R s m args below meth c H1 locs1 (cells + mc) (slots + ms) Q (F0 m (pc + 3) ls (.int r :: rest))) : W p l e R s m args below meth c H locs cells slots Q (F0 m pc ls st) := by
  have hF := va_free (wc := wc) hD hS hA isC hC
  exact va_calli hr hS (fun q _ h => hF q h) hF (fun r u t H1 locs1 ht hvm hw hB hz1 hk1 hS1 => by
    obtain ⟨hP1, hD1⟩ := va_join (wr := wr) (w1 := u) hP hD isC isR hC hR hn hdis hk1 hF (by rw [← ht]; exact hB.1) hB.2.2
    exact kk r u H1 locs1 hw hP1 hD1 hS1)
theorem q_goi0 {post : Int32 → va_W → Prop} {a : Array Value} {mc ms : Nat} {st : List Value} (hr : va_Run p l e R s m args below meth c H locs cells slots mc ms (F0 m pc ls st) rest (va_Qi post (at_W D tys (va_A [] H.size)) (va_A [] H.size) a) (va_A [] H.size)) (hP : va_P D vwCl w H) (hD : va_D A w) (hS : va_S A H0 H locs) (hA : ∀ q, H0.size ≤ q → A q)
    (kk : ∀ (r : Int32) (w1 : va_W) (H1 : Heap) (locs1 : List Loc), post r w1 → va_P D vwCl w H1 → va_S A H0 H1 locs1 → W p l e R s m args below meth c H1 locs1 (cells + mc) (slots + ms) Q (F0 m (pc + 3) ls (.int r :: rest))) : W p l e R s m args below meth c H locs cells slots Q (F0 m pc ls st) := by
  have hF : ∀ q, va_A [] H.size q → A q := by
    intro q h
    rcases h with ⟨k, e, h⟩ | h
    · simp at h
    · exact hA q (Nat.le_trans hS.1 h)
  refine va_calli hr hS (fun q _ h => hF q h) hF (fun r u t H1 locs1 ht hvm hw hB hz1 hk1 hS1 => kk r u H1 locs1 hw (hP.kept fun k q hk => hk1 q.1 (q_lt hP hk) ?_) hS1)
  rintro (⟨k, e, h⟩ | h)
  · simp at h
  · exact absurd (q_lt hP hk) (Nat.not_lt.mpr h)
theorem q_golF {post : Int64 → va_W → Prop} {a : Array Value} {mc ms : Nat} {st : List Value} (hr : va_Run p l e R s m args below meth c H locs cells slots mc ms (F0 m pc ls st) rest (va_Ql post (at_W D tys (va_A w H.size)) (va_A w H.size) a) (va_A w H.size)) (hD : va_D A w) (hS : va_S A H0 H locs) (hA : ∀ q, H0.size ≤ q → A q)
    (kk : ∀ (r : Int64) (w1 : va_W) (H1 : Heap) (locs1 : List Loc), post r w1 → va_P D vwCl w1 H1 → va_D A w1 → va_S A H0 H1 locs1 → W p l e R s m args below meth c H1 locs1 (cells + mc) (slots + ms) Q (F0 m (pc + 3) ls (.long r :: rest))) : W p l e R s m args below meth c H locs cells slots Q (F0 m pc ls st) := by
  have hF := q_freeF hD hS hA
  exact va_calll hr hS (fun q _ h => hF q h) hF (fun r u t H1 locs1 ht hvm hw hB hz1 hk1 hS1 => kk r u H1 locs1 hw (by rw [← ht]; exact hB.1) (hB.2.2.weaken (fun _ q _ h => hF q.1 h)) hS1)
theorem q_gol {post : Int64 → va_W → Prop} {a : Array Value} {mc ms : Nat} {st : List Value} {wc wr : va_W} (hr : va_Run p l e R s m args below meth c H locs cells slots mc ms (F0 m pc ls st) rest (va_Ql post (at_W D tys (va_A wc H.size)) (va_A wc H.size) a) (va_A wc H.size)) (hP : va_P D vwCl w H) (hD : va_D A w) (hS : va_S A H0 H locs) (hA : ∀ q, H0.size ≤ q → A q) (isC isR : List Nat) (hC : isC.map (fun i => w[i]?) = wc.map some) (hR : isR.map (fun i => w[i]?) = wr.map some) (hn : va_nd isR = true) (hdis : ∀ i ∈ isR, i ∉ isC)
    (kk : ∀ (r : Int64) (w1 : va_W) (H1 : Heap) (locs1 : List Loc), post r w1 → va_P D vwCl (wr ++ w1) H1 → va_D A (wr ++ w1) → va_S A H0 H1 locs1 → W p l e R s m args below meth c H1 locs1 (cells + mc) (slots + ms) Q (F0 m (pc + 3) ls (.long r :: rest))) : W p l e R s m args below meth c H locs cells slots Q (F0 m pc ls st) := by
  have hF := va_free (wc := wc) hD hS hA isC hC
  exact va_calll hr hS (fun q _ h => hF q h) hF (fun r u t H1 locs1 ht hvm hw hB hz1 hk1 hS1 => by
    obtain ⟨hP1, hD1⟩ := va_join (wr := wr) (w1 := u) hP hD isC isR hC hR hn hdis hk1 hF (by rw [← ht]; exact hB.1) hB.2.2
    exact kk r u H1 locs1 hw hP1 hD1 hS1)
theorem q_gol0 {post : Int64 → va_W → Prop} {a : Array Value} {mc ms : Nat} {st : List Value} (hr : va_Run p l e R s m args below meth c H locs cells slots mc ms (F0 m pc ls st) rest (va_Ql post (at_W D tys (va_A [] H.size)) (va_A [] H.size) a) (va_A [] H.size)) (hP : va_P D vwCl w H) (hD : va_D A w) (hS : va_S A H0 H locs) (hA : ∀ q, H0.size ≤ q → A q)
    (kk : ∀ (r : Int64) (w1 : va_W) (H1 : Heap) (locs1 : List Loc), post r w1 → va_P D vwCl w H1 → va_S A H0 H1 locs1 → W p l e R s m args below meth c H1 locs1 (cells + mc) (slots + ms) Q (F0 m (pc + 3) ls (.long r :: rest))) : W p l e R s m args below meth c H locs cells slots Q (F0 m pc ls st) := by
  have hF : ∀ q, va_A [] H.size q → A q := by
    intro q h
    rcases h with ⟨k, e, h⟩ | h
    · simp at h
    · exact hA q (Nat.le_trans hS.1 h)
  refine va_calll hr hS (fun q _ h => hF q h) hF (fun r u t H1 locs1 ht hvm hw hB hz1 hk1 hS1 => kk r u H1 locs1 hw (hP.kept fun k q hk => hk1 q.1 (q_lt hP hk) ?_) hS1)
  rintro (⟨k, e, h⟩ | h)
  · simp at h
  · exact absurd (q_lt hP hk) (Nat.not_lt.mpr h)
theorem q_govF {post : va_W → Prop} {a : Array Value} {mc ms : Nat} {st : List Value} (hr : va_Run p l e R s m args below meth c H locs cells slots mc ms (F0 m pc ls st) rest (va_Qv post (at_W D tys (va_A w H.size)) (va_A w H.size) a) (va_A w H.size)) (hD : va_D A w) (hS : va_S A H0 H locs) (hA : ∀ q, H0.size ≤ q → A q)
    (kk : ∀ (w1 : va_W) (H1 : Heap) (locs1 : List Loc), post w1 → va_P D vwCl w1 H1 → va_D A w1 → va_S A H0 H1 locs1 → W p l e R s m args below meth c H1 locs1 (cells + mc) (slots + ms) Q (F0 m (pc + 3) ls (rest))) : W p l e R s m args below meth c H locs cells slots Q (F0 m pc ls st) := by
  have hF := q_freeF hD hS hA
  exact va_callv hr hS (fun q _ h => hF q h) hF (fun u t H1 locs1 ht hvm hw hB hz1 hk1 hS1 => kk u H1 locs1 hw (by rw [← ht]; exact hB.1) (hB.2.2.weaken (fun _ q _ h => hF q.1 h)) hS1)
theorem q_gov {post : va_W → Prop} {a : Array Value} {mc ms : Nat} {st : List Value} {wc wr : va_W} (hr : va_Run p l e R s m args below meth c H locs cells slots mc ms (F0 m pc ls st) rest (va_Qv post (at_W D tys (va_A wc H.size)) (va_A wc H.size) a) (va_A wc H.size)) (hP : va_P D vwCl w H) (hD : va_D A w) (hS : va_S A H0 H locs) (hA : ∀ q, H0.size ≤ q → A q) (isC isR : List Nat) (hC : isC.map (fun i => w[i]?) = wc.map some) (hR : isR.map (fun i => w[i]?) = wr.map some) (hn : va_nd isR = true) (hdis : ∀ i ∈ isR, i ∉ isC)
    (kk : ∀ (w1 : va_W) (H1 : Heap) (locs1 : List Loc), post w1 → va_P D vwCl (wr ++ w1) H1 → va_D A (wr ++ w1) → va_S A H0 H1 locs1 → W p l e R s m args below meth c H1 locs1 (cells + mc) (slots + ms) Q (F0 m (pc + 3) ls (rest))) : W p l e R s m args below meth c H locs cells slots Q (F0 m pc ls st) := by
  have hF := va_free (wc := wc) hD hS hA isC hC
  exact va_callv hr hS (fun q _ h => hF q h) hF (fun u t H1 locs1 ht hvm hw hB hz1 hk1 hS1 => by
    obtain ⟨hP1, hD1⟩ := va_join (wr := wr) (w1 := u) hP hD isC isR hC hR hn hdis hk1 hF (by rw [← ht]; exact hB.1) hB.2.2
    exact kk u H1 locs1 hw hP1 hD1 hS1)
theorem q_gov0 {post : va_W → Prop} {a : Array Value} {mc ms : Nat} {st : List Value} (hr : va_Run p l e R s m args below meth c H locs cells slots mc ms (F0 m pc ls st) rest (va_Qv post (at_W D tys (va_A [] H.size)) (va_A [] H.size) a) (va_A [] H.size)) (hP : va_P D vwCl w H) (hD : va_D A w) (hS : va_S A H0 H locs) (hA : ∀ q, H0.size ≤ q → A q)
    (kk : ∀ (w1 : va_W) (H1 : Heap) (locs1 : List Loc), post w1 → va_P D vwCl w H1 → va_S A H0 H1 locs1 → W p l e R s m args below meth c H1 locs1 (cells + mc) (slots + ms) Q (F0 m (pc + 3) ls (rest))) : W p l e R s m args below meth c H locs cells slots Q (F0 m pc ls st) := by
  have hF : ∀ q, va_A [] H.size q → A q := by
    intro q h
    rcases h with ⟨k, e, h⟩ | h
    · simp at h
    · exact hA q (Nat.le_trans hS.1 h)
  refine va_callv hr hS (fun q _ h => hF q h) hF (fun u t H1 locs1 ht hvm hw hB hz1 hk1 hS1 => kk u H1 locs1 hw (hP.kept fun k q hk => hk1 q.1 (q_lt hP hk) ?_) hS1)
  rintro (⟨k, e, h⟩ | h)
  · simp at h
  · exact absurd (q_lt hP hk) (Nat.not_lt.mpr h)
end QA
/-! ===== pure words ===== -/
noncomputable def sp_in (v lo hi : Int32) : Int32 := if lo ≤ v ∧ v ≤ hi then 1 else 0
theorem sp_in_01 (v lo hi : Int32) : sp_in v lo hi = 0 ∨ sp_in v lo hi = 1 := by
  unfold sp_in; split
  · exact Or.inr rfl
  · exact Or.inl rfl
theorem sp_in_neg (x : Int32) : sp_in x 0 (-1) = 0 := by
  unfold sp_in
  rw [if_neg]
  rintro ⟨h1, h2⟩
  exact absurd (Int32.le_trans h1 h2) (by decide +kernel)
theorem sp_in_00 {x : Int32} (h : ¬ sp_in x 0 0 = 0) : x = 0 := by
  unfold sp_in at h
  split at h
  · rename_i q; exact Int32.le_antisymm q.2 q.1
  · exact absurd rfl h
theorem sp_in_00n {x : Int32} (h : sp_in x 0 0 = 0) : ¬ x = 0 := by
  rintro rfl
  exact absurd h (by decide +kernel)
theorem nI_nge {i n : Nat} (h : i < n) (hn : n < 2 ^ 31) : ¬ Int32.ofNat n ≤ nI i := nI_ge h hn
theorem nI_ngt {i n : Nat} (h : i ≤ n) (hn : n < 2 ^ 31) : ¬ Int32.ofNat n < nI i := nI_nlt h hn
theorem sp_in_2c {x : Int32} (h : ¬ sp_in x 0 1 = 0) : x = 0 ∨ x = 1 := by
  unfold sp_in at h
  split at h
  · rename_i q
    have h1 := Int32.le_iff_toInt_le.mp q.1
    have h2 := Int32.le_iff_toInt_le.mp q.2
    have e1 : (1 : Int32).toInt = 1 := by decide +kernel
    have e0 : (0 : Int32).toInt = 0 := by decide +kernel
    rw [e0] at h1; rw [e1] at h2
    rcases (show x.toInt = 0 ∨ x.toInt = 1 by omega) with e | e
    · exact Or.inl (Int32.toInt_inj.mp (e.trans e0.symm))
    · exact Or.inr (Int32.toInt_inj.mp (e.trans e1.symm))
  · exact absurd rfl h
theorem sp_in_3c {x : Int32} (h : ¬ sp_in x 0 2 = 0) : x = 0 ∨ x = 1 ∨ x = 2 := by
  unfold sp_in at h
  split at h
  · rename_i q
    have h1 := Int32.le_iff_toInt_le.mp q.1
    have h2 := Int32.le_iff_toInt_le.mp q.2
    have e2 : (2 : Int32).toInt = 2 := by decide +kernel
    have e1 : (1 : Int32).toInt = 1 := by decide +kernel
    have e0 : (0 : Int32).toInt = 0 := by decide +kernel
    rw [e0] at h1; rw [e2] at h2
    rcases (show x.toInt = 0 ∨ x.toInt = 1 ∨ x.toInt = 2 by omega) with e | e | e
    · exact Or.inl (Int32.toInt_inj.mp (e.trans e0.symm))
    · exact Or.inr (Or.inl (Int32.toInt_inj.mp (e.trans e1.symm)))
    · exact Or.inr (Or.inr (Int32.toInt_inj.mp (e.trans e2.symm)))
  · exact absurd rfl h
/-- a known k and a number of lies l that may be asked about, with nothing told -/
noncomputable def sp_ask (k l : Int32) : Int32 := if sp_in k 0 0 = 0 then 0 else sp_in l 0 3
theorem sp_ask_01 (k l : Int32) : sp_ask k l = 0 ∨ sp_ask k l = 1 := by
  unfold sp_ask; split
  · exact Or.inl rfl
  · exact sp_in_01 _ _ _
theorem sp_ask_k {k l : Int32} (h : ¬ sp_ask k l = 0) : k = 0 := by
  unfold sp_ask at h
  split at h
  · exact absurd rfl h
  · rename_i q; exact sp_in_00 q
theorem sp_ask_l {k l : Int32} (h : ¬ sp_ask k l = 0) : ¬ l < 0 := by
  unfold sp_ask at h
  split at h
  · exact absurd rfl h
  · unfold sp_in at h
    split at h
    · rename_i q; exact Int32.not_lt.mpr q.1
    · exact absurd rfl h
theorem sp_in_19 {x : Int32} (h : ¬ sp_in x 0 19 = 0) : ∃ i : Nat, i < 20 ∧ x = nI i := by
  unfold sp_in at h
  split at h
  · rename_i q
    obtain ⟨j, hj, e⟩ := nI_of2 (M := 19) (n := 19) (by decide +kernel) (Int32.not_lt.mpr q.1) q.2
    exact ⟨j, by omega, e⟩
  · exact absurd rfl h
theorem sp_in_1_20 {x : Int32} (h : ¬ sp_in x 1 20 = 0) : ∃ i : Nat, 1 ≤ i ∧ i ≤ 20 ∧ x = nI i := by
  unfold sp_in at h
  split at h
  · rename_i q
    obtain ⟨j, hj, e⟩ := nI_of2 (M := 20) (n := 20) (by decide +kernel) (Int32.not_lt.mpr (Int32.le_trans (by decide +kernel) q.1)) q.2
    refine ⟨j, ?_, hj, e⟩
    rcases Nat.eq_zero_or_pos j with h0 | h0
    · subst h0; rw [e] at q; exact absurd q.1 (by decide +kernel)
    · exact h0
  · exact absurd rfl h
theorem sp_in_40 {x : Int32} (h : ¬ sp_in x 0 40 = 0) : ∃ i : Nat, i ≤ 40 ∧ x = nI i := by
  unfold sp_in at h
  split at h
  · rename_i q
    exact nI_of2 (M := 40) (n := 40) (by decide +kernel) (Int32.not_lt.mpr q.1) q.2
  · exact absurd rfl h
/-- the answers of a fresh object -/
noncomputable def fr_one (c x : Int32) : Int32 := if sp_in x 0 0 = 0 then -1 else c
noncomputable def fr_wis (x : Int32) : Int32 := if sp_in x 0 1 = 0 then -1 else x
noncomputable def fr_dear (x : Int32) : Int32 := if sp_in x 0 1 = 0 then -1 else -2
noncomputable def fr_all (x : Int32) : Int32 := if sp_in x 0 2 = 0 then -1 else 0
noncomputable def fr_alike (x y : Int32) : Int32 := if sp_in x 0 0 = 0 then -1 else if sp_in y 0 0 = 0 then -1 else 0
noncomputable def fr_ask (c k l : Int32) : Int32 := if sp_ask k l = 0 then -1 else c
noncomputable def fr_fit (k l w : Int32) : Int32 := if sp_ask k l = 0 then -1 else if sp_in w 0 1 = 0 then -1 else 1
noncomputable def fr_year (x s : Int32) : Int32 := if sp_in x 0 0 = 0 then -1 else if sp_in s 1 20 = 0 then -1 else s
noncomputable def fr_ranked (i : Int32) : Int32 := if sp_in i 0 19 = 0 then -1 else if i = 0 then 0 else -1
noncomputable def fr_years (n : Int32) : Int32 := if sp_in n 0 40 = 0 then -1 else n
noncomputable def fr_count (x : Int32) : Int32 := if x = 14 then 1 else if sp_in x 0 18 = 0 then -1 else 0
noncomputable def sp_app (n : Int64) (c : Int32) : Int64 := if c = 0 then n else 27 * n + (c - 97 + 1).toInt64
theorem out_19 {x : Int32} (h0 : ¬ x = 0) (h1 : ¬ x = 1) (h2 : ¬ x = 2) (h3 : ¬ x = 3) (h4 : ¬ x = 4) (h5 : ¬ x = 5) (h6 : ¬ x = 6) (h7 : ¬ x = 7) (h8 : ¬ x = 8) (h9 : ¬ x = 9) (h10 : ¬ x = 10) (h11 : ¬ x = 11) (h12 : ¬ x = 12) (h13 : ¬ x = 13) (h14 : ¬ x = 14) (h15 : ¬ x = 15) (h16 : ¬ x = 16) (h17 : ¬ x = 17) (h18 : ¬ x = 18) : x.toInt < 0 ∨ (18 : Int) < x.toInt := by
  by_cases q1 : x.toInt < 0
  · exact Or.inl q1
  · by_cases q2 : (18 : Int) < x.toInt
    · exact Or.inr q2
    · exfalso
      have key : ∀ (k : Int32), ¬ x = k → ¬ x.toInt = k.toInt := fun k h e => h (Int32.toInt_inj.mp e)
      have k0 := key 0 h0; have k1 := key 1 h1; have k2 := key 2 h2; have k3 := key 3 h3; have k4 := key 4 h4; have k5 := key 5 h5; have k6 := key 6 h6; have k7 := key 7 h7; have k8 := key 8 h8; have k9 := key 9 h9; have k10 := key 10 h10; have k11 := key 11 h11; have k12 := key 12 h12; have k13 := key 13 h13; have k14 := key 14 h14; have k15 := key 15 h15; have k16 := key 16 h16; have k17 := key 17 h17; have k18 := key 18 h18
      rw [show (0 : Int32).toInt = 0 from by decide +kernel] at k0
      rw [show (1 : Int32).toInt = 1 from by decide +kernel] at k1
      rw [show (2 : Int32).toInt = 2 from by decide +kernel] at k2
      rw [show (3 : Int32).toInt = 3 from by decide +kernel] at k3
      rw [show (4 : Int32).toInt = 4 from by decide +kernel] at k4
      rw [show (5 : Int32).toInt = 5 from by decide +kernel] at k5
      rw [show (6 : Int32).toInt = 6 from by decide +kernel] at k6
      rw [show (7 : Int32).toInt = 7 from by decide +kernel] at k7
      rw [show (8 : Int32).toInt = 8 from by decide +kernel] at k8
      rw [show (9 : Int32).toInt = 9 from by decide +kernel] at k9
      rw [show (10 : Int32).toInt = 10 from by decide +kernel] at k10
      rw [show (11 : Int32).toInt = 11 from by decide +kernel] at k11
      rw [show (12 : Int32).toInt = 12 from by decide +kernel] at k12
      rw [show (13 : Int32).toInt = 13 from by decide +kernel] at k13
      rw [show (14 : Int32).toInt = 14 from by decide +kernel] at k14
      rw [show (15 : Int32).toInt = 15 from by decide +kernel] at k15
      rw [show (16 : Int32).toInt = 16 from by decide +kernel] at k16
      rw [show (17 : Int32).toInt = 17 from by decide +kernel] at k17
      rw [show (18 : Int32).toInt = 18 from by decide +kernel] at k18
      omega
theorem fr_one_lt {x : Int32} (h : x < 0) : -1 = fr_one 0 x := by
  unfold fr_one sp_in
  rw [if_pos (if_neg (fun q => absurd q.1 (Int32.not_le.mpr h)))]
theorem fr_one_gt {x : Int32} (h : ¬ x ≤ 0) : -1 = fr_one 0 x := by
  unfold fr_one sp_in
  rw [if_pos (if_neg (fun q => absurd q.2 h))]
theorem sp_in_ge {x hi : Int32} (h : ¬ sp_in x 0 hi = 0) : ¬ x < 0 := by
  unfold sp_in at h
  split at h
  · rename_i q; exact Int32.not_lt.mpr q.1
  · exact absurd rfl h
theorem fr_count_out {x : Int32} (h : x.toInt < 0 ∨ (18 : Int) < x.toInt) : -1 = fr_count x := by
  unfold fr_count
  rw [if_neg, if_pos]
  · unfold sp_in
    rw [if_neg]
    rintro ⟨h1, h2⟩
    have h1 := Int32.le_iff_toInt_le.mp h1
    have h2 := Int32.le_iff_toInt_le.mp h2
    rw [show (0 : Int32).toInt = 0 from by decide +kernel] at h1
    rw [show (18 : Int32).toInt = 18 from by decide +kernel] at h2
    omega
  · rintro rfl
    exact absurd h (by decide +kernel)
theorem i32_lt1 {x : Int32} (h0 : ¬ x < 0) (h : x < 1) : x = 0 := by
  have h1 := Int32.le_iff_toInt_le.mp (Int32.not_lt.mp h0)
  have h2 := Int32.lt_iff_toInt_lt.mp h
  rw [show (0 : Int32).toInt = 0 from by decide +kernel] at h1
  rw [show (1 : Int32).toInt = 1 from by decide +kernel] at h2
  exact Int32.toInt_inj.mp ((show x.toInt = 0 by omega).trans (by decide +kernel))
theorem fr_ranked_0 {x : Int32} (h : ¬ sp_in x 0 19 = 0) (h1 : x < 1) : 0 = fr_ranked x := by
  obtain rfl := i32_lt1 (sp_in_ge h) h1
  decide +kernel
theorem fr_ranked_1 {x : Int32} (h : ¬ sp_in x 0 19 = 0) (h1 : ¬ x < 1) : -1 = fr_ranked x := by
  unfold fr_ranked
  rw [if_neg h, if_neg]
  rintro rfl
  exact h1 (by decide +kernel)
theorem sp_in_a {v lo hi : Int32} (h : v < lo) : 0 = sp_in v lo hi := by
  unfold sp_in
  rw [if_neg (fun q => absurd q.1 (Int32.not_le.mpr h))]
theorem sp_in_b {v lo hi : Int32} (h : hi < v) : 0 = sp_in v lo hi := by
  unfold sp_in
  rw [if_neg (fun q => absurd q.2 (Int32.not_le.mpr h))]
theorem sp_in_c {v lo hi : Int32} (h1 : ¬ v < lo) (h2 : ¬ hi < v) : 1 = sp_in v lo hi := by
  unfold sp_in
  rw [if_pos ⟨Int32.not_lt.mp h1, Int32.not_lt.mp h2⟩]
/-- the fields of the reference: its ints v, its rows at a -/
noncomputable abbrev moF (a : Nat → Nat) (v : Nat → Int32) : List Value := [.int (v 0), .ref (a 1), .int (v 2), .ref (a 3), .int (v 4), .ref (a 5), .ref (a 6), .ref (a 7), .ref (a 8), .ref (a 9), .int (v 10), .int (v 11), .int (v 12), .int (v 13), .int (v 14), .int (v 15), .int (v 16), .int (v 17), .int (v 18), .int (v 19), .ref (a 20), .ref (a 21), .ref (a 22), .ref (a 23), .ref (a 24), .ref (a 25), .ref (a 26), .ref (a 27), .ref (a 28), .int (v 29), .ref (a 30), .ref (a 31), .ref (a 32), .ref (a 33), .ref (a 34), .int (v 35), .ref (a 36), .ref (a 37), .ref (a 38), .int (v 39), .ref (a 40), .ref (a 41), .int (v 42), .ref (a 43), .ref (a 44), .int (v 45), .ref (a 46), .ref (a 47), .int (v 48), .ref (a 49), .ref (a 50), .int (v 51), .ref (a 52), .ref (a 53), .ref (a 54), .ref (a 55), .ref (a 56), .ref (a 57)]
/-- the world of the reference: the object at h, its rows at a, what they hold: f, g -/
noncomputable abbrev mw (cB cI cJ cZ : ClassId) (h : Nat) (a : Nat → Nat) (v : Nat → Int32) (f : Nat → Nat → Int32) (g : Nat → Nat → Int64) : va_W := [(h, .inr (11, moF a v)), (a 1, .inl (cB, 2000, .inl (f 1))), (a 3, .inl (cB, 2000, .inl (f 3))), (a 5, .inl (cI, 403, .inl (f 5))), (a 6, .inl (cI, 403, .inl (f 6))), (a 7, .inl (cI, 403, .inl (f 7))), (a 8, .inl (cJ, 403, .inr (.inl (g 8)))), (a 9, .inl (cJ, 19, .inr (.inl (g 9)))), (a 20, .inl (cI, 2, .inl (f 20))), (a 21, .inl (cI, 60, .inl (f 21))), (a 22, .inl (cJ, 6, .inr (.inl (g 22)))), (a 23, .inl (cI, 2, .inl (f 23))), (a 24, .inl (cI, 12, .inl (f 24))), (a 25, .inl (cI, 12, .inl (f 25))), (a 26, .inl (cI, 2, .inl (f 26))), (a 27, .inl (cI, 8, .inl (f 27))), (a 28, .inl (cI, 8, .inl (f 28))), (a 30, .inl (cZ, 260, .inl (f 30))), (a 31, .inl (cI, 260, .inl (f 31))), (a 32, .inl (cI, 260, .inl (f 32))), (a 33, .inl (cI, 260, .inl (f 33))), (a 34, .inl (cI, 260, .inl (f 34))), (a 36, .inl (cI, 840, .inl (f 36))), (a 37, .inl (cI, 840, .inl (f 37))), (a 38, .inl (cI, 64, .inl (f 38))), (a 40, .inl (cI, 9, .inl (f 40))), (a 41, .inl (cI, 400, .inl (f 41))), (a 43, .inl (cI, 29, .inl (f 43))), (a 44, .inl (cI, 29, .inl (f 44))), (a 46, .inl (cI, 6, .inl (f 46))), (a 47, .inl (cZ, 5, .inl (f 47))), (a 49, .inl (cI, 1160, .inl (f 49))), (a 50, .inl (cI, 7776, .inl (f 50))), (a 52, .inl (cI, 20, .inl (f 52))), (a 53, .inl (cI, 20, .inl (f 53))), (a 54, .inl (cZ, 20, .inl (f 54))), (a 55, .inl (cI, 30, .inl (f 55))), (a 56, .inl (cZ, 3, .inl (f 56))), (a 57, .inl (cI, 87, .inl (f 57)))]
theorem mw_v0 {cB cI cJ cZ : ClassId} {h : Nat} {a : Nat → Nat} {v : Nat → Int32} {f : Nat → Nat → Int32} {g : Nat → Nat → Int64} (x : Int32) : (mw cB cI cJ cZ h a v f g).set 0 (h, .inr (11, (moF a v).set 0 (.int x))) = mw cB cI cJ cZ h a (va_up v 0 x) f g := rfl
theorem mw_f1 {cB cI cJ cZ : ClassId} {h : Nat} {a : Nat → Nat} {v : Nat → Int32} {f : Nat → Nat → Int32} {g : Nat → Nat → Int64} (x : Nat → Int32) : (mw cB cI cJ cZ h a v f g).set 1 (a 1, .inl (cB, 2000, .inl x)) = mw cB cI cJ cZ h a v (va_up f 1 x) g := rfl
theorem mw_v2 {cB cI cJ cZ : ClassId} {h : Nat} {a : Nat → Nat} {v : Nat → Int32} {f : Nat → Nat → Int32} {g : Nat → Nat → Int64} (x : Int32) : (mw cB cI cJ cZ h a v f g).set 0 (h, .inr (11, (moF a v).set 2 (.int x))) = mw cB cI cJ cZ h a (va_up v 2 x) f g := rfl
theorem mw_f3 {cB cI cJ cZ : ClassId} {h : Nat} {a : Nat → Nat} {v : Nat → Int32} {f : Nat → Nat → Int32} {g : Nat → Nat → Int64} (x : Nat → Int32) : (mw cB cI cJ cZ h a v f g).set 2 (a 3, .inl (cB, 2000, .inl x)) = mw cB cI cJ cZ h a v (va_up f 3 x) g := rfl
theorem mw_v4 {cB cI cJ cZ : ClassId} {h : Nat} {a : Nat → Nat} {v : Nat → Int32} {f : Nat → Nat → Int32} {g : Nat → Nat → Int64} (x : Int32) : (mw cB cI cJ cZ h a v f g).set 0 (h, .inr (11, (moF a v).set 4 (.int x))) = mw cB cI cJ cZ h a (va_up v 4 x) f g := rfl
theorem mw_f5 {cB cI cJ cZ : ClassId} {h : Nat} {a : Nat → Nat} {v : Nat → Int32} {f : Nat → Nat → Int32} {g : Nat → Nat → Int64} (x : Nat → Int32) : (mw cB cI cJ cZ h a v f g).set 3 (a 5, .inl (cI, 403, .inl x)) = mw cB cI cJ cZ h a v (va_up f 5 x) g := rfl
theorem mw_f6 {cB cI cJ cZ : ClassId} {h : Nat} {a : Nat → Nat} {v : Nat → Int32} {f : Nat → Nat → Int32} {g : Nat → Nat → Int64} (x : Nat → Int32) : (mw cB cI cJ cZ h a v f g).set 4 (a 6, .inl (cI, 403, .inl x)) = mw cB cI cJ cZ h a v (va_up f 6 x) g := rfl
theorem mw_f7 {cB cI cJ cZ : ClassId} {h : Nat} {a : Nat → Nat} {v : Nat → Int32} {f : Nat → Nat → Int32} {g : Nat → Nat → Int64} (x : Nat → Int32) : (mw cB cI cJ cZ h a v f g).set 5 (a 7, .inl (cI, 403, .inl x)) = mw cB cI cJ cZ h a v (va_up f 7 x) g := rfl
theorem mw_f8 {cB cI cJ cZ : ClassId} {h : Nat} {a : Nat → Nat} {v : Nat → Int32} {f : Nat → Nat → Int32} {g : Nat → Nat → Int64} (x : Nat → Int64) : (mw cB cI cJ cZ h a v f g).set 6 (a 8, .inl (cJ, 403, .inr (.inl x))) = mw cB cI cJ cZ h a v f (va_up g 8 x) := rfl
theorem mw_f9 {cB cI cJ cZ : ClassId} {h : Nat} {a : Nat → Nat} {v : Nat → Int32} {f : Nat → Nat → Int32} {g : Nat → Nat → Int64} (x : Nat → Int64) : (mw cB cI cJ cZ h a v f g).set 7 (a 9, .inl (cJ, 19, .inr (.inl x))) = mw cB cI cJ cZ h a v f (va_up g 9 x) := rfl
theorem mw_v10 {cB cI cJ cZ : ClassId} {h : Nat} {a : Nat → Nat} {v : Nat → Int32} {f : Nat → Nat → Int32} {g : Nat → Nat → Int64} (x : Int32) : (mw cB cI cJ cZ h a v f g).set 0 (h, .inr (11, (moF a v).set 10 (.int x))) = mw cB cI cJ cZ h a (va_up v 10 x) f g := rfl
theorem mw_v11 {cB cI cJ cZ : ClassId} {h : Nat} {a : Nat → Nat} {v : Nat → Int32} {f : Nat → Nat → Int32} {g : Nat → Nat → Int64} (x : Int32) : (mw cB cI cJ cZ h a v f g).set 0 (h, .inr (11, (moF a v).set 11 (.int x))) = mw cB cI cJ cZ h a (va_up v 11 x) f g := rfl
theorem mw_v12 {cB cI cJ cZ : ClassId} {h : Nat} {a : Nat → Nat} {v : Nat → Int32} {f : Nat → Nat → Int32} {g : Nat → Nat → Int64} (x : Int32) : (mw cB cI cJ cZ h a v f g).set 0 (h, .inr (11, (moF a v).set 12 (.int x))) = mw cB cI cJ cZ h a (va_up v 12 x) f g := rfl
theorem mw_v13 {cB cI cJ cZ : ClassId} {h : Nat} {a : Nat → Nat} {v : Nat → Int32} {f : Nat → Nat → Int32} {g : Nat → Nat → Int64} (x : Int32) : (mw cB cI cJ cZ h a v f g).set 0 (h, .inr (11, (moF a v).set 13 (.int x))) = mw cB cI cJ cZ h a (va_up v 13 x) f g := rfl
theorem mw_v14 {cB cI cJ cZ : ClassId} {h : Nat} {a : Nat → Nat} {v : Nat → Int32} {f : Nat → Nat → Int32} {g : Nat → Nat → Int64} (x : Int32) : (mw cB cI cJ cZ h a v f g).set 0 (h, .inr (11, (moF a v).set 14 (.int x))) = mw cB cI cJ cZ h a (va_up v 14 x) f g := rfl
theorem mw_v15 {cB cI cJ cZ : ClassId} {h : Nat} {a : Nat → Nat} {v : Nat → Int32} {f : Nat → Nat → Int32} {g : Nat → Nat → Int64} (x : Int32) : (mw cB cI cJ cZ h a v f g).set 0 (h, .inr (11, (moF a v).set 15 (.int x))) = mw cB cI cJ cZ h a (va_up v 15 x) f g := rfl
theorem mw_v16 {cB cI cJ cZ : ClassId} {h : Nat} {a : Nat → Nat} {v : Nat → Int32} {f : Nat → Nat → Int32} {g : Nat → Nat → Int64} (x : Int32) : (mw cB cI cJ cZ h a v f g).set 0 (h, .inr (11, (moF a v).set 16 (.int x))) = mw cB cI cJ cZ h a (va_up v 16 x) f g := rfl
theorem mw_v17 {cB cI cJ cZ : ClassId} {h : Nat} {a : Nat → Nat} {v : Nat → Int32} {f : Nat → Nat → Int32} {g : Nat → Nat → Int64} (x : Int32) : (mw cB cI cJ cZ h a v f g).set 0 (h, .inr (11, (moF a v).set 17 (.int x))) = mw cB cI cJ cZ h a (va_up v 17 x) f g := rfl
theorem mw_v18 {cB cI cJ cZ : ClassId} {h : Nat} {a : Nat → Nat} {v : Nat → Int32} {f : Nat → Nat → Int32} {g : Nat → Nat → Int64} (x : Int32) : (mw cB cI cJ cZ h a v f g).set 0 (h, .inr (11, (moF a v).set 18 (.int x))) = mw cB cI cJ cZ h a (va_up v 18 x) f g := rfl
theorem mw_v19 {cB cI cJ cZ : ClassId} {h : Nat} {a : Nat → Nat} {v : Nat → Int32} {f : Nat → Nat → Int32} {g : Nat → Nat → Int64} (x : Int32) : (mw cB cI cJ cZ h a v f g).set 0 (h, .inr (11, (moF a v).set 19 (.int x))) = mw cB cI cJ cZ h a (va_up v 19 x) f g := rfl
theorem mw_f20 {cB cI cJ cZ : ClassId} {h : Nat} {a : Nat → Nat} {v : Nat → Int32} {f : Nat → Nat → Int32} {g : Nat → Nat → Int64} (x : Nat → Int32) : (mw cB cI cJ cZ h a v f g).set 8 (a 20, .inl (cI, 2, .inl x)) = mw cB cI cJ cZ h a v (va_up f 20 x) g := rfl
theorem mw_f21 {cB cI cJ cZ : ClassId} {h : Nat} {a : Nat → Nat} {v : Nat → Int32} {f : Nat → Nat → Int32} {g : Nat → Nat → Int64} (x : Nat → Int32) : (mw cB cI cJ cZ h a v f g).set 9 (a 21, .inl (cI, 60, .inl x)) = mw cB cI cJ cZ h a v (va_up f 21 x) g := rfl
theorem mw_f22 {cB cI cJ cZ : ClassId} {h : Nat} {a : Nat → Nat} {v : Nat → Int32} {f : Nat → Nat → Int32} {g : Nat → Nat → Int64} (x : Nat → Int64) : (mw cB cI cJ cZ h a v f g).set 10 (a 22, .inl (cJ, 6, .inr (.inl x))) = mw cB cI cJ cZ h a v f (va_up g 22 x) := rfl
theorem mw_f23 {cB cI cJ cZ : ClassId} {h : Nat} {a : Nat → Nat} {v : Nat → Int32} {f : Nat → Nat → Int32} {g : Nat → Nat → Int64} (x : Nat → Int32) : (mw cB cI cJ cZ h a v f g).set 11 (a 23, .inl (cI, 2, .inl x)) = mw cB cI cJ cZ h a v (va_up f 23 x) g := rfl
theorem mw_f24 {cB cI cJ cZ : ClassId} {h : Nat} {a : Nat → Nat} {v : Nat → Int32} {f : Nat → Nat → Int32} {g : Nat → Nat → Int64} (x : Nat → Int32) : (mw cB cI cJ cZ h a v f g).set 12 (a 24, .inl (cI, 12, .inl x)) = mw cB cI cJ cZ h a v (va_up f 24 x) g := rfl
theorem mw_f25 {cB cI cJ cZ : ClassId} {h : Nat} {a : Nat → Nat} {v : Nat → Int32} {f : Nat → Nat → Int32} {g : Nat → Nat → Int64} (x : Nat → Int32) : (mw cB cI cJ cZ h a v f g).set 13 (a 25, .inl (cI, 12, .inl x)) = mw cB cI cJ cZ h a v (va_up f 25 x) g := rfl
theorem mw_f26 {cB cI cJ cZ : ClassId} {h : Nat} {a : Nat → Nat} {v : Nat → Int32} {f : Nat → Nat → Int32} {g : Nat → Nat → Int64} (x : Nat → Int32) : (mw cB cI cJ cZ h a v f g).set 14 (a 26, .inl (cI, 2, .inl x)) = mw cB cI cJ cZ h a v (va_up f 26 x) g := rfl
theorem mw_f27 {cB cI cJ cZ : ClassId} {h : Nat} {a : Nat → Nat} {v : Nat → Int32} {f : Nat → Nat → Int32} {g : Nat → Nat → Int64} (x : Nat → Int32) : (mw cB cI cJ cZ h a v f g).set 15 (a 27, .inl (cI, 8, .inl x)) = mw cB cI cJ cZ h a v (va_up f 27 x) g := rfl
theorem mw_f28 {cB cI cJ cZ : ClassId} {h : Nat} {a : Nat → Nat} {v : Nat → Int32} {f : Nat → Nat → Int32} {g : Nat → Nat → Int64} (x : Nat → Int32) : (mw cB cI cJ cZ h a v f g).set 16 (a 28, .inl (cI, 8, .inl x)) = mw cB cI cJ cZ h a v (va_up f 28 x) g := rfl
theorem mw_v29 {cB cI cJ cZ : ClassId} {h : Nat} {a : Nat → Nat} {v : Nat → Int32} {f : Nat → Nat → Int32} {g : Nat → Nat → Int64} (x : Int32) : (mw cB cI cJ cZ h a v f g).set 0 (h, .inr (11, (moF a v).set 29 (.int x))) = mw cB cI cJ cZ h a (va_up v 29 x) f g := rfl
theorem mw_f30 {cB cI cJ cZ : ClassId} {h : Nat} {a : Nat → Nat} {v : Nat → Int32} {f : Nat → Nat → Int32} {g : Nat → Nat → Int64} (x : Nat → Int32) : (mw cB cI cJ cZ h a v f g).set 17 (a 30, .inl (cZ, 260, .inl x)) = mw cB cI cJ cZ h a v (va_up f 30 x) g := rfl
theorem mw_f31 {cB cI cJ cZ : ClassId} {h : Nat} {a : Nat → Nat} {v : Nat → Int32} {f : Nat → Nat → Int32} {g : Nat → Nat → Int64} (x : Nat → Int32) : (mw cB cI cJ cZ h a v f g).set 18 (a 31, .inl (cI, 260, .inl x)) = mw cB cI cJ cZ h a v (va_up f 31 x) g := rfl
theorem mw_f32 {cB cI cJ cZ : ClassId} {h : Nat} {a : Nat → Nat} {v : Nat → Int32} {f : Nat → Nat → Int32} {g : Nat → Nat → Int64} (x : Nat → Int32) : (mw cB cI cJ cZ h a v f g).set 19 (a 32, .inl (cI, 260, .inl x)) = mw cB cI cJ cZ h a v (va_up f 32 x) g := rfl
theorem mw_f33 {cB cI cJ cZ : ClassId} {h : Nat} {a : Nat → Nat} {v : Nat → Int32} {f : Nat → Nat → Int32} {g : Nat → Nat → Int64} (x : Nat → Int32) : (mw cB cI cJ cZ h a v f g).set 20 (a 33, .inl (cI, 260, .inl x)) = mw cB cI cJ cZ h a v (va_up f 33 x) g := rfl
theorem mw_f34 {cB cI cJ cZ : ClassId} {h : Nat} {a : Nat → Nat} {v : Nat → Int32} {f : Nat → Nat → Int32} {g : Nat → Nat → Int64} (x : Nat → Int32) : (mw cB cI cJ cZ h a v f g).set 21 (a 34, .inl (cI, 260, .inl x)) = mw cB cI cJ cZ h a v (va_up f 34 x) g := rfl
theorem mw_v35 {cB cI cJ cZ : ClassId} {h : Nat} {a : Nat → Nat} {v : Nat → Int32} {f : Nat → Nat → Int32} {g : Nat → Nat → Int64} (x : Int32) : (mw cB cI cJ cZ h a v f g).set 0 (h, .inr (11, (moF a v).set 35 (.int x))) = mw cB cI cJ cZ h a (va_up v 35 x) f g := rfl
theorem mw_f36 {cB cI cJ cZ : ClassId} {h : Nat} {a : Nat → Nat} {v : Nat → Int32} {f : Nat → Nat → Int32} {g : Nat → Nat → Int64} (x : Nat → Int32) : (mw cB cI cJ cZ h a v f g).set 22 (a 36, .inl (cI, 840, .inl x)) = mw cB cI cJ cZ h a v (va_up f 36 x) g := rfl
theorem mw_f37 {cB cI cJ cZ : ClassId} {h : Nat} {a : Nat → Nat} {v : Nat → Int32} {f : Nat → Nat → Int32} {g : Nat → Nat → Int64} (x : Nat → Int32) : (mw cB cI cJ cZ h a v f g).set 23 (a 37, .inl (cI, 840, .inl x)) = mw cB cI cJ cZ h a v (va_up f 37 x) g := rfl
theorem mw_f38 {cB cI cJ cZ : ClassId} {h : Nat} {a : Nat → Nat} {v : Nat → Int32} {f : Nat → Nat → Int32} {g : Nat → Nat → Int64} (x : Nat → Int32) : (mw cB cI cJ cZ h a v f g).set 24 (a 38, .inl (cI, 64, .inl x)) = mw cB cI cJ cZ h a v (va_up f 38 x) g := rfl
theorem mw_v39 {cB cI cJ cZ : ClassId} {h : Nat} {a : Nat → Nat} {v : Nat → Int32} {f : Nat → Nat → Int32} {g : Nat → Nat → Int64} (x : Int32) : (mw cB cI cJ cZ h a v f g).set 0 (h, .inr (11, (moF a v).set 39 (.int x))) = mw cB cI cJ cZ h a (va_up v 39 x) f g := rfl
theorem mw_f40 {cB cI cJ cZ : ClassId} {h : Nat} {a : Nat → Nat} {v : Nat → Int32} {f : Nat → Nat → Int32} {g : Nat → Nat → Int64} (x : Nat → Int32) : (mw cB cI cJ cZ h a v f g).set 25 (a 40, .inl (cI, 9, .inl x)) = mw cB cI cJ cZ h a v (va_up f 40 x) g := rfl
theorem mw_f41 {cB cI cJ cZ : ClassId} {h : Nat} {a : Nat → Nat} {v : Nat → Int32} {f : Nat → Nat → Int32} {g : Nat → Nat → Int64} (x : Nat → Int32) : (mw cB cI cJ cZ h a v f g).set 26 (a 41, .inl (cI, 400, .inl x)) = mw cB cI cJ cZ h a v (va_up f 41 x) g := rfl
theorem mw_v42 {cB cI cJ cZ : ClassId} {h : Nat} {a : Nat → Nat} {v : Nat → Int32} {f : Nat → Nat → Int32} {g : Nat → Nat → Int64} (x : Int32) : (mw cB cI cJ cZ h a v f g).set 0 (h, .inr (11, (moF a v).set 42 (.int x))) = mw cB cI cJ cZ h a (va_up v 42 x) f g := rfl
theorem mw_f43 {cB cI cJ cZ : ClassId} {h : Nat} {a : Nat → Nat} {v : Nat → Int32} {f : Nat → Nat → Int32} {g : Nat → Nat → Int64} (x : Nat → Int32) : (mw cB cI cJ cZ h a v f g).set 27 (a 43, .inl (cI, 29, .inl x)) = mw cB cI cJ cZ h a v (va_up f 43 x) g := rfl
theorem mw_f44 {cB cI cJ cZ : ClassId} {h : Nat} {a : Nat → Nat} {v : Nat → Int32} {f : Nat → Nat → Int32} {g : Nat → Nat → Int64} (x : Nat → Int32) : (mw cB cI cJ cZ h a v f g).set 28 (a 44, .inl (cI, 29, .inl x)) = mw cB cI cJ cZ h a v (va_up f 44 x) g := rfl
theorem mw_v45 {cB cI cJ cZ : ClassId} {h : Nat} {a : Nat → Nat} {v : Nat → Int32} {f : Nat → Nat → Int32} {g : Nat → Nat → Int64} (x : Int32) : (mw cB cI cJ cZ h a v f g).set 0 (h, .inr (11, (moF a v).set 45 (.int x))) = mw cB cI cJ cZ h a (va_up v 45 x) f g := rfl
theorem mw_f46 {cB cI cJ cZ : ClassId} {h : Nat} {a : Nat → Nat} {v : Nat → Int32} {f : Nat → Nat → Int32} {g : Nat → Nat → Int64} (x : Nat → Int32) : (mw cB cI cJ cZ h a v f g).set 29 (a 46, .inl (cI, 6, .inl x)) = mw cB cI cJ cZ h a v (va_up f 46 x) g := rfl
theorem mw_f47 {cB cI cJ cZ : ClassId} {h : Nat} {a : Nat → Nat} {v : Nat → Int32} {f : Nat → Nat → Int32} {g : Nat → Nat → Int64} (x : Nat → Int32) : (mw cB cI cJ cZ h a v f g).set 30 (a 47, .inl (cZ, 5, .inl x)) = mw cB cI cJ cZ h a v (va_up f 47 x) g := rfl
theorem mw_v48 {cB cI cJ cZ : ClassId} {h : Nat} {a : Nat → Nat} {v : Nat → Int32} {f : Nat → Nat → Int32} {g : Nat → Nat → Int64} (x : Int32) : (mw cB cI cJ cZ h a v f g).set 0 (h, .inr (11, (moF a v).set 48 (.int x))) = mw cB cI cJ cZ h a (va_up v 48 x) f g := rfl
theorem mw_f49 {cB cI cJ cZ : ClassId} {h : Nat} {a : Nat → Nat} {v : Nat → Int32} {f : Nat → Nat → Int32} {g : Nat → Nat → Int64} (x : Nat → Int32) : (mw cB cI cJ cZ h a v f g).set 31 (a 49, .inl (cI, 1160, .inl x)) = mw cB cI cJ cZ h a v (va_up f 49 x) g := rfl
theorem mw_f50 {cB cI cJ cZ : ClassId} {h : Nat} {a : Nat → Nat} {v : Nat → Int32} {f : Nat → Nat → Int32} {g : Nat → Nat → Int64} (x : Nat → Int32) : (mw cB cI cJ cZ h a v f g).set 32 (a 50, .inl (cI, 7776, .inl x)) = mw cB cI cJ cZ h a v (va_up f 50 x) g := rfl
theorem mw_v51 {cB cI cJ cZ : ClassId} {h : Nat} {a : Nat → Nat} {v : Nat → Int32} {f : Nat → Nat → Int32} {g : Nat → Nat → Int64} (x : Int32) : (mw cB cI cJ cZ h a v f g).set 0 (h, .inr (11, (moF a v).set 51 (.int x))) = mw cB cI cJ cZ h a (va_up v 51 x) f g := rfl
theorem mw_f52 {cB cI cJ cZ : ClassId} {h : Nat} {a : Nat → Nat} {v : Nat → Int32} {f : Nat → Nat → Int32} {g : Nat → Nat → Int64} (x : Nat → Int32) : (mw cB cI cJ cZ h a v f g).set 33 (a 52, .inl (cI, 20, .inl x)) = mw cB cI cJ cZ h a v (va_up f 52 x) g := rfl
theorem mw_f53 {cB cI cJ cZ : ClassId} {h : Nat} {a : Nat → Nat} {v : Nat → Int32} {f : Nat → Nat → Int32} {g : Nat → Nat → Int64} (x : Nat → Int32) : (mw cB cI cJ cZ h a v f g).set 34 (a 53, .inl (cI, 20, .inl x)) = mw cB cI cJ cZ h a v (va_up f 53 x) g := rfl
theorem mw_f54 {cB cI cJ cZ : ClassId} {h : Nat} {a : Nat → Nat} {v : Nat → Int32} {f : Nat → Nat → Int32} {g : Nat → Nat → Int64} (x : Nat → Int32) : (mw cB cI cJ cZ h a v f g).set 35 (a 54, .inl (cZ, 20, .inl x)) = mw cB cI cJ cZ h a v (va_up f 54 x) g := rfl
theorem mw_f55 {cB cI cJ cZ : ClassId} {h : Nat} {a : Nat → Nat} {v : Nat → Int32} {f : Nat → Nat → Int32} {g : Nat → Nat → Int64} (x : Nat → Int32) : (mw cB cI cJ cZ h a v f g).set 36 (a 55, .inl (cI, 30, .inl x)) = mw cB cI cJ cZ h a v (va_up f 55 x) g := rfl
theorem mw_f56 {cB cI cJ cZ : ClassId} {h : Nat} {a : Nat → Nat} {v : Nat → Int32} {f : Nat → Nat → Int32} {g : Nat → Nat → Int64} (x : Nat → Int32) : (mw cB cI cJ cZ h a v f g).set 37 (a 56, .inl (cZ, 3, .inl x)) = mw cB cI cJ cZ h a v (va_up f 56 x) g := rfl
theorem mw_f57 {cB cI cJ cZ : ClassId} {h : Nat} {a : Nat → Nat} {v : Nat → Int32} {f : Nat → Nat → Int32} {g : Nat → Nat → Int64} (x : Nat → Int32) : (mw cB cI cJ cZ h a v f g).set 38 (a 57, .inl (cI, 87, .inl x)) = mw cB cI cJ cZ h a v (va_up f 57 x) g := rfl
