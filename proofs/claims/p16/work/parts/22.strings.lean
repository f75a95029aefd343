/-! ===== the constant of Tokens, the String class, the array class of Standing ===== -/
noncomputable def txW : String := "wave party needs fares dares shifts seed if then else at odds heavy nerve left year which buoys goes "
noncomputable def bytL : List Int32 := [119, 97, 118, 101, 32, 112, 97, 114, 116, 121, 32, 110, 101, 101, 100, 115, 32, 102, 97, 114, 101, 115, 32, 100, 97, 114, 101, 115, 32, 115, 104, 105, 102, 116, 115, 32, 115, 101, 101, 100, 32, 105, 102, 32, 116, 104, 101, 110, 32, 101, 108, 115, 101, 32, 97, 116, 32, 111, 100, 100, 115, 32, 104, 101, 97, 118, 121, 32, 110, 101, 114, 118, 101, 32, 108, 101, 102, 116, 32, 121, 101, 97, 114, 32, 119, 104, 105, 99, 104, 32, 98, 117, 111, 121, 115, 32, 103, 111, 101, 115, 32]
noncomputable def xW (ak av : Nat) (A : Nat → Prop) (U : State) (H : Heap) : Prop :=
  va_AO "GuessFerry$Standing" U ∧ vk_R "GuessFerry$Tokens" 27 txW ak U ∧ va_O "java/lang/String" ak A U H ∧ va_OF "java/lang/String" "coder" "B" (.int 0) ak A U H ∧ va_OF "java/lang/String" "value" "[B" (.ref av) ak A U H ∧ va_T .byte av 101 (fun j => .int (bytL.getD j 0)) A U H ∧ va_Z "java/lang/String" "COMPACT_STRINGS" "Z" (.int 1) A U H ∧ va_Zq "jdk/internal/util/Preconditions" "SIOOBE_FORMATTER" "Ljava/util/function/BiFunction;" A U H
theorem xW_same {ak av : Nat} {A : Nat → Prop} {u U : State} {H : Heap} (h : u.vm = U.vm) (x : xW ak av A u H) : xW ak av A U H := by
  obtain ⟨x1, x2, x3, x4, x5, x6, x7, x8⟩ := x
  have hvm : u.vm.Alike U.vm := by rw [h]; exact Vm.Alike.refl U.vm
  exact ⟨x1.moved hvm, vk_R.same h.symm x2, x3.moved hvm, x4.moved hvm, x5.moved hvm, x6.moved hvm, x7.moved hvm, x8.moved hvm⟩
theorem xW_warm {ak av : Nat} {A : Nat → Prop} {s U : State} {H : Heap} (hW : s.WarmedH U.vm) (x : xW ak av A s H) : xW ak av A U H := by
  obtain ⟨x1, x2, x3, x4, x5, x6, x7, x8⟩ := x
  have hvm := hW.alike
  exact ⟨x1.moved hvm, vk_R.warm hW x2, x3.moved hvm, x4.moved hvm, x5.moved hvm, x6.moved hvm, x7.moved hvm, x8.moved hvm⟩
theorem xW_kept {ak av : Nat} {A : Nat → Prop} {U : State} {H H1 : Heap} (hq : ∀ a : Nat, a < H.size → ¬ A a → H1[a]? = H[a]?) (x : xW ak av A U H) : xW ak av A U H1 := by
  obtain ⟨x1, x2, x3, x4, x5, x6, x7, x8⟩ := x
  exact ⟨x1, x2, x3.kept hq, x4.kept hq, x5.kept hq, x6.kept hq, x7.kept hq, x8.kept hq⟩
theorem xW_narrow {ak av : Nat} {A B : Nat → Prop} {U : State} {H : Heap} (hAB : ∀ q, B q → A q) (x : xW ak av A U H) : xW ak av B U H := by
  obtain ⟨x1, x2, x3, x4, x5, x6, x7, x8⟩ := x
  exact ⟨x1, x2, x3.narrow hAB, x4.narrow hAB, x5.narrow hAB, x6.narrow hAB, x7.narrow hAB, x8.narrow hAB⟩
noncomputable abbrev pre_X (ak av : Nat) (D : va_G) (tys : List (ClassId × FieldType)) (sz : Nat) (w : va_W) : State → Prop := fun U => pre_W D tys sz w U ∧ xW ak av (va_A w sz) U U.heap
theorem blind_X {ak av : Nat} {D : va_G} {tys : List (ClassId × FieldType)} {sz : Nat} {w : va_W} {as : List Value} : FrameBlind (va_Pc as (pre_X ak av D tys sz w)) := fun a U g mk z => by
  obtain ⟨z0, ⟨z1, qP, qK, qD, qN⟩, qX⟩ := z
  exact ⟨z0, ⟨z1, qP, va_K.moved (u := U) (U := U.calling g mk a) (Vm.Alike.refl U.vm) qK, qD, nw_same (u := U) (U := U.calling g mk a) rfl qN⟩, xW_same (u := U) (U := U.calling g mk a) rfl qX⟩
noncomputable def CIX (ak av : Nat) (l : Launch) (y : MethodName) (ws : List Cond) (rm : Room) (D : va_G) (tys : List (ClassId × FieldType)) (w : va_W) (as : List Value) (post : Int32 → va_W → Prop) : Prop :=
  ∀ sz : Nat, Met l y ws rm (va_Pc as (pre_X ak av D tys sz w)) (va_Qi post (at_W D tys (va_A w sz)) (va_A w sz)) rm.cells rm.slots (va_A w sz)
theorem open_IX {ak av : Nat} {l : Launch} {y : MethodName} {ws ws' : List Cond} {rm : Room} {D : va_G} {tys : List (ClassId × FieldType)} {w : va_W} {as : List Value} {post : Int32 → va_W → Prop} {cc : ByteArray} {maxL : Nat} {ret : Option FieldType}
    (hy : plainName y.cls = true) (hw : ws = Cond.code y cc maxL ret :: ws') (hn : (lg_sl as).length ≤ maxL)
    (body : ∀ (p : Program) (e : Env) (s : State) (m : MethodId) (below : List Frame) (meth : Method) (c : Code) (A : Nat → Prop) (ls : Array Slot), Ent p s m meth c cc maxL ret ws y D tys w as A ls → xW ak av A s s.heap →
      W p l e rm s m as.toArray below meth c s.heap [] 0 0 (MQ below (va_Qi post (at_W D tys A) A) as.toArray s rm.cells rm.slots A) (F0 m 0 ls [])) : CIX ak av l y ws rm D tys w as post := by
  intro sz
  refine Met.ofW (cc := cc) (maxL := maxL) (ret := ret) hy hw ?_
  intro p e s m args below meth c s₁ B hml hv
  obtain ⟨rfl, ⟨hsz, hP, hK, hD0, hN⟩, hX⟩ := hv
  subst hsz
  have hl := lv_entry as (n := maxL) hn
  rw [lg_entry_eq]
  generalize (lg_sl as ++ List.replicate (maxL - (lg_sl as).length) Slot.unset).toArray = ls at hl ⊢
  exact body p e s m below meth c _ ls ⟨⟨B.exec, B.bytes, hml, findClass_of_methodNamed B.named, atoms_spec (ws := ws) B.pre⟩, B.returns, B.notSynchronized, (name_of_methodNamed B.named B.method).1, fun q h => Or.inr h, hP, hK, hD0.self (sz := s.heap.size), hN, hl⟩ hX
noncomputable def CVX (ak av : Nat) (l : Launch) (y : MethodName) (ws : List Cond) (rm : Room) (D : va_G) (tys : List (ClassId × FieldType)) (w : va_W) (as : List Value) (post : va_W → Prop) : Prop :=
  ∀ sz : Nat, Met l y ws rm (va_Pc as (pre_X ak av D tys sz w)) (va_Qv post (at_W D tys (va_A w sz)) (va_A w sz)) rm.cells rm.slots (va_A w sz)
theorem open_VX {ak av : Nat} {l : Launch} {y : MethodName} {ws ws' : List Cond} {rm : Room} {D : va_G} {tys : List (ClassId × FieldType)} {w : va_W} {as : List Value} {post : va_W → Prop} {cc : ByteArray} {maxL : Nat} {ret : Option FieldType}
    (hy : plainName y.cls = true) (hw : ws = Cond.code y cc maxL ret :: ws') (hn : (lg_sl as).length ≤ maxL)
    (body : ∀ (p : Program) (e : Env) (s : State) (m : MethodId) (below : List Frame) (meth : Method) (c : Code) (A : Nat → Prop) (ls : Array Slot), Ent p s m meth c cc maxL ret ws y D tys w as A ls → xW ak av A s s.heap →
      W p l e rm s m as.toArray below meth c s.heap [] 0 0 (MQ below (va_Qv post (at_W D tys A) A) as.toArray s rm.cells rm.slots A) (F0 m 0 ls [])) : CVX ak av l y ws rm D tys w as post := by
  intro sz
  refine Met.ofW (cc := cc) (maxL := maxL) (ret := ret) hy hw ?_
  intro p e s m args below meth c s₁ B hml hv
  obtain ⟨rfl, ⟨hsz, hP, hK, hD0, hN⟩, hX⟩ := hv
  subst hsz
  have hl := lv_entry as (n := maxL) hn
  rw [lg_entry_eq]
  generalize (lg_sl as ++ List.replicate (maxL - (lg_sl as).length) Slot.unset).toArray = ls at hl ⊢
  exact body p e s m below meth c _ ls ⟨⟨B.exec, B.bytes, hml, findClass_of_methodNamed B.named, atoms_spec (ws := ws) B.pre⟩, B.returns, B.notSynchronized, (name_of_methodNamed B.named B.method).1, fun q h => Or.inr h, hP, hK, hD0.self (sz := s.heap.size), hN, hl⟩ hX
section QX
variable {p : Program} {l : Launch} {e : Env} {R : Room} {s : State} {m : MethodId} {args : Array Value} {below : List Frame} {meth : Method} {c : Code} {H : Heap} {locs : List Loc} {cells slots : Nat} {D : va_G} {tys : List (ClassId × FieldType)} {w : va_W} {A : Nat → Prop} {ak av : Nat}
theorem q_preX {as : List Value} {wc : va_W} (hN : nw_ok s) (hK : va_K D vwCl tys s) (hP : va_P D vwCl w H) (hD : va_D A w) (hS : va_S A s.heap H locs) (hA : ∀ q, s.heap.size ≤ q → A q) (hX : xW ak av A s s.heap) (isC : List Nat) (hC : isC.map (fun i => w[i]?) = wc.map some) (hn : va_nd isC = true) : PreS s H (va_Pc as (pre_X ak av D tys H.size wc)) as :=
  ⟨blind_X, fun U hU hW => ⟨rfl, ⟨by rw [hU], by rw [hU]; exact hP.sub isC (fm_of_map hC), va_K.moved hW.alike hK, (hD.sub isC hn hC).weaken (fun _ _ _ _ => trivial), nw_warm hW hN⟩, by
    rw [hU]; exact xW_narrow (va_free (wc := wc) hD hS hA isC hC) (xW_warm hW (xW_kept hS.2.1 hX))⟩⟩
theorem q_preX0 {as : List Value} (hN : nw_ok s) (hK : va_K D vwCl tys s) (hS : va_S A s.heap H locs) (hA : ∀ q, s.heap.size ≤ q → A q) (hX : xW ak av A s s.heap) : PreS s H (va_Pc as (pre_X ak av D tys H.size [])) as :=
  ⟨blind_X, fun U hU hW => ⟨rfl, ⟨by rw [hU], fun k q h => by simp at h, va_K.moved hW.alike hK, ⟨fun i j p q h => by simp at h, fun k q h => by simp at h⟩, nw_warm hW hN⟩, by
    rw [hU]
    refine xW_narrow ?_ (xW_warm hW (xW_kept hS.2.1 hX))
    rintro q (⟨k, e, h⟩ | h)
    · simp at h
    · exact hA q (Nat.le_trans hS.1 h)⟩⟩
end QX
section QY
variable {p : Program} {l : Launch} {e : Env} {R : Room} {s : State} {m : MethodId} {args : Array Value} {below : List Frame} {meth : Method} {c : Code} {H : Heap} {locs : List Loc} {cells slots : Nat} {cc : ByteArray} {pc nL : Nat} {ls : Array Slot} {Ts : List Cond} {own : String} {D : va_G} {tys : List (ClassId × FieldType)} {w : va_W} {A : Nat → Prop}
end QY
theorem nar_b : ∀ j, j < 101 → narrow .char (.int (UInt32.toInt32 ((Int32.toUInt32 ((bytL.getD j 0) &&& 255)) % 65536))) = .int (UInt32.toInt32 ((Int32.toUInt32 ((bytL.getD j 0) &&& 255)) % 65536)) := by decide +kernel
/-! ===== what the class's Tokens have for words ===== -/
noncomputable abbrev bcW (j : Nat) : Int32 := UInt32.toInt32 ((Int32.toUInt32 ((bytL.getD j 0) &&& 255)) % 65536)
noncomputable def isLw (x : Int32) : Int32 := if x < 97 then 0 else if 122 < x then 0 else 1
noncomputable abbrev wlW (z : Int64) (x : Int32) : Int64 := (lshlf z 5) ||| (Int32.toInt64 ((x - 97) + 1))
noncomputable def wst : Nat → Nat × Int64 × (Nat → Int64)
  | 0 => (0, 0, fun _ => 0)
  | i + 1 => if ¬ isLw (bcW i) = 0 then ((wst i).1, wlW (wst i).2.1 (bcW i), (wst i).2.2) else if 19 ≤ (wst i).1 then wst i else ((wst i).1 + 1, 0, vp_updL (wst i).2.2 (wst i).1 (wst i).2.1)
noncomputable def wdF : Nat → Int64 := (wst 101).2.2
theorem wst_l {i k : Nat} {z : Int64} {φ : Nat → Int64} {r1 r5 : Int32} {r7 : Int64} (h : wst i = (k, z, φ)) (h1 : narrow .char (.int r1) = .int r1 ∧ r1 = bcW i) (h5 : r5 = isLw r1) (c5 : ¬ r5 = 0) (h7 : r7 = wlW z r1) : wst (i + 1) = (k, r7, φ) := by
  have e1 : (wst i).1 = k := by rw [h]
  have e2 : (wst i).2.1 = z := by rw [h]
  have e3 : (wst i).2.2 = φ := by rw [h]
  have q : ¬ isLw (bcW i) = 0 := by rw [← h1.2, ← h5]; exact c5
  show (if ¬ isLw (bcW i) = 0 then ((wst i).1, wlW (wst i).2.1 (bcW i), (wst i).2.2) else if 19 ≤ (wst i).1 then wst i else ((wst i).1 + 1, 0, vp_updL (wst i).2.2 (wst i).1 (wst i).2.1)) = (k, r7, φ)
  rw [if_pos q, e1, e2, e3, h7, h1.2]
theorem wst_p {i k : Nat} {z : Int64} {φ : Nat → Int64} {r1 r5 : Int32} (h : wst i = (k, z, φ)) (h1 : narrow .char (.int r1) = .int r1 ∧ r1 = bcW i) (h5 : r5 = isLw r1) (c5 : r5 = 0) (hk : k < 19) : wst (i + 1) = (k + 1, 0, vp_updL φ (Int32.toNatClampNeg (nI k)) z) := by
  have e1 : (wst i).1 = k := by rw [h]
  have e2 : (wst i).2.1 = z := by rw [h]
  have e3 : (wst i).2.2 = φ := by rw [h]
  have q : isLw (bcW i) = 0 := by rw [← h1.2, ← h5]; exact c5
  show (if ¬ isLw (bcW i) = 0 then ((wst i).1, wlW (wst i).2.1 (bcW i), (wst i).2.2) else if 19 ≤ (wst i).1 then wst i else ((wst i).1 + 1, 0, vp_updL (wst i).2.2 (wst i).1 (wst i).2.1)) = _
  rw [if_neg (fun w => w q), e1, if_neg (by omega), e2, e3, nI_clamp (by omega)]
theorem wst_s {i k : Nat} {z : Int64} {φ : Nat → Int64} {r1 r5 : Int32} (h : wst i = (k, z, φ)) (h1 : narrow .char (.int r1) = .int r1 ∧ r1 = bcW i) (h5 : r5 = isLw r1) (c5 : r5 = 0) (c6 : (19 : Int32) ≤ nI k) (hk : k ≤ 19) : wst (i + 1) = (k, z, φ) := by
  have e1 : (wst i).1 = k := by rw [h]
  have q : isLw (bcW i) = 0 := by rw [← h1.2, ← h5]; exact c5
  have hk2 : 19 ≤ k := by
    have := tn_le (a := 19) (by decide) (nI_toInt (n := k) (by omega)) c6
    omega
  show (if ¬ isLw (bcW i) = 0 then ((wst i).1, wlW (wst i).2.1 (bcW i), (wst i).2.2) else if 19 ≤ (wst i).1 then wst i else ((wst i).1 + 1, 0, vp_updL (wst i).2.2 (wst i).1 (wst i).2.1)) = _
  rw [if_neg (fun w => w q), e1, if_pos hk2]
  exact h
