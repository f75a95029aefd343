/-! ===== behind a fault nothing changes: the reference ===== -/
def Sz (a b : Int32) (z : RS) : Prop := z.v 13 = a ∧ z.v 14 = b
theorem Sz.pos {a b : Int32} (ha : 0 < a.toInt) {z : RS} (h : Sz a b z) : 0 < (z.v 13).toInt := by rw [h.1]; exact ha
theorem Sz.ne {a b : Int32} (ha : 0 < a.toInt) {z : RS} (h : Sz a b z) : ¬ z.v 13 = 0 := fun q => by
  have p := Sz.pos ha h
  rw [q] at p
  exact absurd p (by decide)
theorem Sz.nle {a b : Int32} (ha : 0 < a.toInt) {z : RS} (h : Sz a b z) : ¬ z.v 13 ≤ 0 := fun c => by
  have p := Sz.pos ha h
  have := tn_le (b := 0) rfl (by decide) c
  omega
theorem Sz.lt {a b : Int32} (ha : 0 < a.toInt) {z : RS} (h : Sz a b z) : 0 < z.v 13 := by
  have p := Sz.pos ha h
  refine Int32.lt_iff_toInt_lt.mpr ?_
  rw [show (0 : Int32).toInt = 0 from by decide]
  exact p
theorem sz_is {a b : Int32} (ha : 0 < a.toInt) {z : RS} (x : Int32) (h : Sz a b z) : Pt (r_is z x) (fun y => y.1 = 0 ∧ Sz a b y.2) := by
  rw [zis_off (Sz.ne ha h)]
  exact pt_some ⟨rfl, h⟩
theorem sz_fail {a b : Int32} (ha : 0 < a.toInt) {z : RS} (x : Int32) (h : Sz a b z) : Pt (r_fail z x) (Sz a b) := by
  rw [zfail_off (Sz.pos ha h)]
  exact pt_some h
theorem sz_goesOn {a b : Int32} (ha : 0 < a.toInt) {z : RS} (h : Sz a b z) : Pt (r_goesOn z) (Sz a b) := by
  unfold r_goesOn
  refine pt_ite (fun _ => ?_) (fun _ => ?_)
  · exact pt_bindP (sz_fail ha _ h) (fun s h => pt_some h)
  · exact pt_let (P := Sz a b) h (fun s h => pt_some h)
theorem sz_must {a b : Int32} (ha : 0 < a.toInt) {z : RS} (x : Int32) (h : Sz a b z) : Pt (r_must z x) (Sz a b) := by
  unfold r_must
  refine pt_bindI (sz_is ha _ h) (fun r s1 h1 => ?_)
  obtain ⟨hr, h1⟩ := h1
  have hr : r = 0 := hr
  rw [hr, if_pos rfl]
  exact pt_bindP (sz_fail ha _ h1) (fun s h => pt_some h)
theorem sz_wrong {a b : Int32} (ha : 0 < a.toInt) {z : RS} (x k : Int32) (h : Sz a b z) : Pt (r_wrong z x k) (Sz a b) := by
  unfold r_wrong
  refine pt_ite (fun _ => ?_) (fun _ => pt_none)
  rw [if_pos (Sz.lt ha h)]
  exact pt_some h
theorem sz_bounded {a b : Int32} (ha : 0 < a.toInt) {z : RS} (x : Int32) (h : Sz a b z) : Pt (r_bounded z x) (fun y => Sz a b y.2) := by
  unfold r_bounded
  rw [if_pos (Sz.lt ha h)]
  unfold r_bounded_15
  exact pt_bindP (sz_fail ha _ h) (fun s h => pt_some h)
theorem sz_emit {a b : Int32} (ha : 0 < a.toInt) {z : RS} (x k : Int32) (h : Sz a b z) : Pt (r_emit z x k) (Sz a b) := by
  unfold r_emit
  refine pt_ite (fun _ => ?_) (fun _ => pt_none)
  refine pt_let (P := Sz a b) h (fun s h => ?_)
  refine pt_ite (fun _ => ?_) (fun _ => pt_none)
  refine pt_let (P := Sz a b) h (fun s h => ?_)
  exact pt_let (P := Sz a b) h (fun s h => pt_some h)
theorem sz_unit {a b : Int32} (ha : 0 < a.toInt) {z : RS} (h : Sz a b z) : Pt (r_unit z) (Sz a b) := by
  unfold r_unit
  refine pt_bindI (sz_is ha _ h) (fun r s1 h1 => ?_)
  obtain ⟨hr, h1⟩ := h1
  have hr : r = 0 := hr
  rw [hr, if_pos rfl, if_neg (Sz.ne ha h1)]
  unfold r_unit_88
  exact pt_bindP (sz_fail ha _ h1) (fun s h => pt_some h)
/-! what comes out: codes and what waits, nothing else -/
abbrev WCO : List Nat := [35, 39, 136, 137]
theorem fr_emit {z0 z : RS} (x k : Int32) (h : FrR WCO z0 z) : Pt (r_emit z x k) (FrR WCO z0) := by
  unfold r_emit
  refine pt_ite (fun _ => ?_) (fun _ => pt_none)
  refine pt_let (P := FrR WCO z0) (h.sf (by decide)) (fun s h => ?_)
  refine pt_ite (fun _ => ?_) (fun _ => pt_none)
  refine pt_let (P := FrR WCO z0) (h.sf (by decide)) (fun s h => ?_)
  exact pt_let (P := FrR WCO z0) (h.sv (by decide)) (fun s h => pt_some h)
theorem fr_comesOutL {z0 : RS} (x : Int32) : ∀ (n : Nat) (z : RS), FrR WCO z0 z → Pt (r_comesOut_0L n z x) (FrR WCO z0) := by
  intro n
  induction n with
  | zero => intro z _; exact pt_none
  | succ n ih =>
    intro z h
    have h84 : ∀ s t0, FrR WCO z0 s → Pt (r_comesOut_84 (r_comesOut_0L n) s x t0) (FrR WCO z0) := fun s t0 h => by
      unfold r_comesOut_84
      exact pt_bindP (fr_emit _ _ h) (fun s h => ih s h)
    have h42 : ∀ s x2, FrR WCO z0 s → Pt (r_comesOut_42 (r_comesOut_0L n) s x x2) (FrR WCO z0) := fun s x2 h => by
      unfold r_comesOut_42
      refine pt_let (P := FrR WCO z0) (h.sv (by decide)) (fun s h => ?_)
      exact pt_ite (fun _ => h84 _ _ h) (fun _ => pt_ite (fun _ => h84 _ _ h) (fun _ => pt_ite (fun _ => h84 _ _ h) (fun _ => h84 _ _ h)))
    show Pt (r_comesOut_0 (r_comesOut_0L n) z x) _
    unfold r_comesOut_0
    refine pt_ite (fun _ => pt_some h) (fun _ => pt_ite (fun _ => ?_) (fun _ => pt_none))
    refine pt_ite (fun _ => pt_some h) (fun _ => pt_ite (fun _ => h42 _ _ h) (fun _ => ?_))
    exact pt_ite (fun _ => pt_some h) (fun _ => pt_ite (fun _ => pt_some h) (fun _ => h42 _ _ h))
theorem fr_comesOut (z : RS) (x : Int32) : Pt (r_comesOut z x) (FrR WCO z) := by
  unfold r_comesOut
  exact fr_comesOutL x fu z FrR.rfl
theorem sz_fr {a b : Int32} {z y : RS} (h : Sz a b z) (hF : FrR WCO z y) : Sz a b y := ⟨(hF.1 13 (by decide)).trans h.1, (hF.1 14 (by decide)).trans h.2⟩
theorem sz_comesOut {a b : Int32} (ha : 0 < a.toInt) {z : RS} (x : Int32) (h : Sz a b z) : Pt (r_comesOut z x) (Sz a b) := fun y e => sz_fr h (fr_comesOut z x y e)
theorem sz_expr_96L {a b : Int32} (ha : 0 < a.toInt) (k12 : RS → Int32 → Int32 → Option RS) (n : Nat) {z : RS} (x1 : Int32) (h : Sz a b z) : Pt (r_expression_96L k12 n z x1) (Sz a b) := by
  have h204 : ∀ z, Sz a b z → Pt (r_expression_204 z) (Sz a b) := fun z h => by
    unfold r_expression_204
    exact pt_bindP (sz_comesOut ha _ h) (fun s h => pt_some h)
  have h186 : ∀ z, Sz a b z → Pt (r_expression_186 k12 z x1 0) (Sz a b) := fun z h => by
    unfold r_expression_186
    rw [if_pos rfl]
    exact pt_ite (fun _ => h204 _ h) (fun _ => pt_bindP (sz_fail ha _ h) (fun s h => h204 _ h))
  have h145 : ∀ z, Sz a b z → Pt (r_expression_145 k12 z x1) (Sz a b) := fun z h => by
    unfold r_expression_145
    refine pt_bindI (sz_is ha _ h) (fun r s1 h1 => ?_)
    obtain ⟨hr, h1⟩ := h1
    have hr : r = 0 := hr
    rw [hr, if_pos rfl]
    refine pt_bindI (sz_is ha _ h1) (fun r s1 h1 => ?_)
    obtain ⟨hr, h1⟩ := h1
    have hr : r = 0 := hr
    rw [hr, if_pos rfl]
    refine pt_bindI (sz_is ha _ h1) (fun r s1 h1 => ?_)
    obtain ⟨hr, h1⟩ := h1
    have hr : r = 0 := hr
    rw [hr, if_pos rfl]
    refine pt_bindI (sz_is ha _ h1) (fun r s1 h1 => ?_)
    obtain ⟨hr, h1⟩ := h1
    have hr : r = 0 := hr
    rw [hr, if_pos rfl]
    exact h186 _ h1
  cases n with
  | zero => exact pt_none
  | succ n =>
    show Pt (r_expression_96 k12 (r_expression_96L k12 n) z x1) _
    unfold r_expression_96
    refine pt_bindI (sz_is ha _ h) (fun r s1 h1 => ?_)
    obtain ⟨hr, h1⟩ := h1
    have hr : r = 0 := hr
    rw [hr, if_pos rfl]
    exact h145 _ h1
theorem sz_expr_23L {a b : Int32} (ha : 0 < a.toInt) (k12 : RS → Int32 → Int32 → Option RS) (n : Nat) {z : RS} (x1 : Int32) (h : Sz a b z) : Pt (r_expression_23L k12 n z x1) (Sz a b) := by
  cases n with
  | zero => exact pt_none
  | succ n =>
    show Pt (r_expression_23 k12 (r_expression_23L k12 n) z x1) _
    unfold r_expression_23
    refine pt_bindI (sz_is ha _ h) (fun r s1 h1 => ?_)
    obtain ⟨hr, h1⟩ := h1
    have hr : r = 0 := hr
    rw [hr, if_pos rfl]
    refine pt_bindP (sz_unit ha h1) (fun s h => ?_)
    rw [if_neg (Sz.nle ha h)]
    exact pt_some h
theorem sz_expr_46 {a b : Int32} (ha : 0 < a.toInt) (k12 : RS → Int32 → Int32 → Option RS) (n : Nat) {z : RS} (x1 : Int32) (h : Sz a b z) : Pt (r_expression_46 k12 (r_expression_23L k12 n) z x1) (Sz a b) := by
  unfold r_expression_46
  refine pt_let (P := Sz a b) h (fun s h => ?_)
  refine pt_bindP (sz_goesOn ha h) (fun s h => ?_)
  refine pt_ite (fun _ => ?_) (fun _ => pt_none)
  refine pt_let (P := Sz a b) h (fun s h => ?_)
  exact pt_let (P := Sz a b) h (fun s h => sz_expr_23L ha k12 n x1 h)
theorem sz_expr_12L {a b : Int32} (ha : 0 < a.toInt) (n : Nat) {z : RS} (x : Int32) (h : Sz a b z) : Pt (r_expression_12L n z x 1) (Sz a b) := by
  cases n with
  | zero => exact pt_none
  | succ n =>
    show Pt (r_expression_12 (r_expression_12L n) z x 1) _
    unfold r_expression_12
    rw [if_neg z_one, if_neg (Sz.ne ha h)]
    exact pt_some h
theorem sz_expression {a b : Int32} (ha : 0 < a.toInt) {z : RS} (h : Sz a b z) : Pt (r_expression z) (Sz a b) := by
  unfold r_expression
  exact pt_let (P := Sz a b) h (fun s h => sz_expr_12L ha _ _ h)
