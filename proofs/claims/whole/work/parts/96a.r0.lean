/-! the start: both are new -/
theorem rel0_lo : loOk (mLow mInit) (mHigh mInit) := by unfold loOk; decide +kernel
theorem rel0_nm : nmOk (mNames mInit) := by unfold nmOk; decide +kernel
theorem rel0_ok : pOk sett0 := by unfold pOk; decide +kernel
theorem rel0_par : ∀ k : Nat, k < 15 → sett0 k = mPar mInit k := by decide +kernel
theorem rel0_row : mNow mInit = fun _ => 0 := rfl
theorem rel0_LR : LR lop0 (mNow mInit) 0 := by
  rw [rel0_row]
  refine LR_ext (LR_zero lop0 (fun _ => 0)) rfl rfl rfl rfl rfl (fun s hs => ?_) (fun _ _ => rfl) rfl rfl (fun _ _ => ⟨rfl, rfl, rfl, rfl⟩) (fun j hj => ?_)
  · rcases (show s = 0 ∨ s = 1 ∨ s = 2 ∨ s = 3 ∨ s = 4 ∨ s = 5 ∨ s = 6 ∨ s = 7 ∨ s = 8 ∨ s = 9 by omega) with rfl | rfl | rfl | rfl | rfl | rfl | rfl | rfl | rfl | rfl <;> rfl
  · rw [mZeroN_at, if_pos hj]
theorem rel0 : REL x0 mInit := by
  refine ⟨⟨rel0_ok, rel0_par⟩, ⟨0, by decide, rfl, rfl, fun i hi => absurd hi (Nat.not_lt_zero i)⟩, ⟨0, by decide, rfl, rfl, fun i hi => absurd hi (Nat.not_lt_zero i)⟩, ⟨0, by decide, rel0_LR⟩, ⟨0, by decide, rfl, rfl, fun h => absurd h (by decide), fun h => absurd h (by decide), Or.inr rfl, Or.inr rfl⟩, rel0_lo, rel0_nm, rfl⟩
