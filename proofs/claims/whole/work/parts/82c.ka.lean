def rm_X0_init : Room := { frames := 1, cells := 7, slots := 96, locals := 28 }
theorem c_X0_init (Γ : gT) (l : Launch) (h0 : Nat) : Cn Γ l yX0_init wsX0_init rm_X0_init h0 [(h0, .inr (0, [.null, .int 0]))] 7 96 (fun a => chgW Γ a 0 chg0) := by
  sorry
