theorem i32_10 : ¬ (1 : Int32) = 0 := by decide
theorem fTick2_now (σ : Lop) (v : Sett) (i : Int32) : lNow (fTick2 σ v i) = lNow σ := by simp only [fTick2, lSetP, lNow]
