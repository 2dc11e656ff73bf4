theorem mPut3 (μ : Mst) (s w m : Int32) : mPut_number (mPut_which (mPut_spot μ s) w) m = (mNow μ, mAside μ, mKept μ, mKm μ, mPar μ, mParA μ, mBef μ, mUm μ, mLow μ, mHigh μ, mNames μ, mLen μ, mText μ, mPath μ, mIdeal μ, s, w, m) := rfl
theorem c_X7_isAsg (Γ : gT) (l : Launch) (a : Nat → Nat) (b : Nat) (μ : Mst) (hnm : nmOk (mNames μ)) (hL : lenOk (mLen μ)) (hsp : lenOk (mSpot μ)) : Ci Γ l yX7_isAssignment wsX7_isAssignment rm_X7_isAssignment [.ref (a b)] (modW Γ a b μ) (aR (mText μ) (mLen μ) (mLow μ) (mHigh μ) (mSpot μ)) (modW Γ a b (mNow μ, mAside μ, mKept μ, mKm μ, mPar μ, mParA μ, mBef μ, mUm μ, mLow μ, mHigh μ, mNames μ, mLen μ, mText μ, mPath μ, mIdeal μ, aSp (mText μ) (mLen μ) (mSpot μ), aWh (mText μ) (mLen μ) (mSpot μ), aNm (mText μ) (mLen μ) (mSpot μ) (mNum μ))) := by
  have h := c_X7_isAssignment Γ l a b μ hnm hL hsp
  simp only [mPut3] at h
  exact h
