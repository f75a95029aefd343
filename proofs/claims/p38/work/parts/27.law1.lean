set_option maxRecDepth 100000 in
theorem xs_el : ∀ j : Nat, j < 101 → (Cond.eq (.elem (.field (Term.string "GuessFerry$Tokens" 27) "java/lang/String" "value" "[B") (.int (Int32.ofNat j))) (.int (bytL.getD j 0))) ∈ flatC (Jvm.Cond.and given_1 narrow_1) := by decide +kernel
