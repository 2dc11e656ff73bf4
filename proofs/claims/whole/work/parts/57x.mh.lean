theorem mOk_clr' (n : mRow) (sp : Int64) : mOk (vp_updL (mZeroN n 681) 641 sp) ∧ vp_updL (mZeroN n 681) 641 sp 640 = lN 0 := mOk_clr n sp
