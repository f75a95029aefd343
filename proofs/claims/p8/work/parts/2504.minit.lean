theorem dX11_init_0 : decode cX11_init 0 = .ok (.aload_n 0, 1) := dc1_42 (by decide +kernel)
theorem dX11_init_1 : decode cX11_init 1 = .ok (.invokespecial 7, 3) := dcw_183 (by decide +kernel)
set_option maxHeartbeats 4000000 in
set_option maxRecDepth 100000 in
theorem c_init (l : Launch) (dC : Nat → ClassId) (dI : Nat → Nat → Nat) (cB cI cJ cZ cS : ClassId) (h : Nat) : CV l yX11_init wsX11_init ({ frames := 2, cells := 38, slots := 18381, locals := 48 }) (dC, dI) (tysA cB cI cJ cZ cS) [(h, .inr (11, [.int 0, .null, .int 0, .null, .int 0, .null, .null, .null, .null, .null, .int 0, .int 0, .int 0, .int 0, .int 0, .int 0, .int 0, .int 0, .int 0, .int 0, .null, .null, .null, .null, .null, .null, .null, .null, .null, .int 0, .null, .null, .null, .null, .null, .int 0, .null, .null, .null, .int 0, .null, .null, .int 0, .null, .null, .int 0, .null, .null, .int 0, .null, .null, .int 0, .null, .null, .null, .null, .null, .null]))] [.ref h] (fun w => ∃ (a : Nat → Nat) (s9 : RS), InvR s9 ∧ Big s9 ∧ RIR s9 ∧ w = mwS cB cI cJ cZ h a s9) := by
  refine open_V (cc := cX11_init) (maxL := 1) (ret := none) (by decide) rfl (Nat.le_of_ble_eq_true rfl) ?_
  intro p e s m below meth c A ls E
  obtain ⟨C, hr, hlocks, hnm, hA, hP, hK, hD, hN, hl⟩ := E
  obtain ⟨hx, hb, hml, hown, hts⟩ := id C
  have hS : va_S A s.heap s.heap [] := va_S.rf
  have hl : lv_has ls 1 [(0, .ref h)] := hl
  have OC : Cond.code Lib.objectInit ⟨#[0xb1]⟩ 1 none ∈ wsX11_init := by decide +kernel
  have OI : Cond.instanceMethod Lib.objectInit ∈ wsX11_init := by decide +kernel
  have OL7 : Cond.methodLink RX11 7 Lib.objectInit ∈ wsX11_init := by decide +kernel
  refine lv_aload_n hx hb dX11_init_0 rfl (lv_at hl 0 rfl) ?_
  refine W.objInit hx hb hown (hts _ OL7) (hts _ OI) (hts _ OC) rfl (by rw [hml]; exact hl.1) rfl dX11_init_1 (Nat.le_of_ble_eq_true rfl) (Nat.le_of_ble_eq_true rfl) ?_
  refine W.eq (g2 := F0 m 4 ls []) rfl ?_
  exact mi_0 l dC dI cB cI cJ cZ cS h C hr hlocks hnm hA hK hN _ _ ls hP hD hS hl
