/-! the bundles: what the objects hold, and the worlds that hold them -/
abbrev Sett : Type := Nat → Int32
abbrev Sec : Type := Int64 × Int64 × Int32 × Int32 × Int32
abbrev sErr (x : Sec) : Int64 := x.1
abbrev sEff (x : Sec) : Int64 := x.2.1
abbrev sOver (x : Sec) : Int32 := x.2.2.1
abbrev sTicks (x : Sec) : Int32 := x.2.2.2.1
abbrev sUp (x : Sec) : Int32 := x.2.2.2.2
abbrev Wat : Type := (Nat → Int32) × (Nat → Int32) × (Nat → Int32) × (Nat → Int32) × Int32
abbrev wSig (x : Wat) : (Nat → Int32) := x.1
abbrev wLeast (x : Wat) : (Nat → Int32) := x.2.1
abbrev wGreat (x : Wat) : (Nat → Int32) := x.2.2.1
abbrev wGtick (x : Wat) : (Nat → Int32) := x.2.2.2.1
abbrev wCnt (x : Wat) : Int32 := x.2.2.2.2
abbrev Lop : Type := Int32 × Int32 × Int32 × Int32 × Int32 × (Nat → Int32) × (Nat → Int32) × Sec × Wat
abbrev lNow (x : Lop) : Int32 := x.1
abbrev lLoad (x : Lop) : Int32 := x.2.1
abbrev lSeed (x : Lop) : Int32 := x.2.2.1
abbrev lBad (x : Lop) : Int32 := x.2.2.2.1
abbrev lGood (x : Lop) : Int32 := x.2.2.2.2.1
abbrev lPres (x : Lop) : (Nat → Int32) := x.2.2.2.2.2.1
abbrev lRecs (x : Lop) : (Nat → Int32) := x.2.2.2.2.2.2.1
abbrev lSec (x : Lop) : Sec := x.2.2.2.2.2.2.2.1
abbrev lWat (x : Lop) : Wat := x.2.2.2.2.2.2.2.2
abbrev Chg : Type := (Nat → Nat → Int32) × Int32
abbrev cRows (x : Chg) : (Nat → Nat → Int32) := x.1
abbrev cCnt (x : Chg) : Int32 := x.2
abbrev Txt : Type := (Nat → Int32) × (Nat → Int32) × (Nat → Int32) × Int32 × Int32
abbrev tChars (x : Txt) : (Nat → Int32) := x.1
abbrev tTarg (x : Txt) : (Nat → Int32) := x.2.1
abbrev tWant (x : Txt) : (Nat → Int32) := x.2.2.1
abbrev tLen (x : Txt) : Int32 := x.2.2.2.1
abbrev tCnt (x : Txt) : Int32 := x.2.2.2.2
abbrev Xst : Type := Sett × Chg × Txt × Lop × Lop × Lop × Int32 × Sett × Sett × Lop × Lop
abbrev xSet (x : Xst) : Sett := x.1
abbrev xChg (x : Xst) : Chg := x.2.1
abbrev xTxt (x : Xst) : Txt := x.2.2.1
abbrev xLoop (x : Xst) : Lop := x.2.2.2.1
abbrev xFst (x : Xst) : Lop := x.2.2.2.2.1
abbrev xSnd (x : Xst) : Lop := x.2.2.2.2.2.1
abbrev xCnt (x : Xst) : Int32 := x.2.2.2.2.2.2.1
abbrev xTs (x : Xst) : Sett := x.2.2.2.2.2.2.2.1
abbrev xIs (x : Xst) : Sett := x.2.2.2.2.2.2.2.2.1
abbrev xTrial (x : Xst) : Lop := x.2.2.2.2.2.2.2.2.2.1
abbrev xIdeal (x : Xst) : Lop := x.2.2.2.2.2.2.2.2.2.2
abbrev Mst : Type := (Nat → Int64) × (Nat → Int64) × (Nat → Int64) × Int32 × (Nat → Int32) × (Nat → Int32) × (Nat → Int32) × Int32 × (Nat → Int32) × (Nat → Int32) × (Nat → Int32) × Int32 × (Nat → Int32) × (Nat → Int64) × Int32 × Int32 × Int32 × Int32
abbrev mNow (x : Mst) : (Nat → Int64) := x.1
abbrev mAside (x : Mst) : (Nat → Int64) := x.2.1
abbrev mKept (x : Mst) : (Nat → Int64) := x.2.2.1
abbrev mKm (x : Mst) : Int32 := x.2.2.2.1
abbrev mPar (x : Mst) : (Nat → Int32) := x.2.2.2.2.1
abbrev mParA (x : Mst) : (Nat → Int32) := x.2.2.2.2.2.1
abbrev mBef (x : Mst) : (Nat → Int32) := x.2.2.2.2.2.2.1
abbrev mUm (x : Mst) : Int32 := x.2.2.2.2.2.2.2.1
abbrev mLow (x : Mst) : (Nat → Int32) := x.2.2.2.2.2.2.2.2.1
abbrev mHigh (x : Mst) : (Nat → Int32) := x.2.2.2.2.2.2.2.2.2.1
abbrev mNames (x : Mst) : (Nat → Int32) := x.2.2.2.2.2.2.2.2.2.2.1
abbrev mLen (x : Mst) : Int32 := x.2.2.2.2.2.2.2.2.2.2.2.1
abbrev mText (x : Mst) : (Nat → Int32) := x.2.2.2.2.2.2.2.2.2.2.2.2.1
abbrev mPath (x : Mst) : (Nat → Int64) := x.2.2.2.2.2.2.2.2.2.2.2.2.2.1
abbrev mIdeal (x : Mst) : Int32 := x.2.2.2.2.2.2.2.2.2.2.2.2.2.2.1
abbrev mSpot (x : Mst) : Int32 := x.2.2.2.2.2.2.2.2.2.2.2.2.2.2.2.1
abbrev mWhich (x : Mst) : Int32 := x.2.2.2.2.2.2.2.2.2.2.2.2.2.2.2.2.1
abbrev mNum (x : Mst) : Int32 := x.2.2.2.2.2.2.2.2.2.2.2.2.2.2.2.2.2
def sPut_errorSum (x : Sec) (v : Int64) : Sec := (v, sEff x, sOver x, sTicks x, sUp x)
def sPut_effort (x : Sec) (v : Int64) : Sec := (sErr x, v, sOver x, sTicks x, sUp x)
def sPut_overshoot (x : Sec) (v : Int32) : Sec := (sErr x, sEff x, v, sTicks x, sUp x)
def sPut_ticks (x : Sec) (v : Int32) : Sec := (sErr x, sEff x, sOver x, v, sUp x)
def sPut_upwards (x : Sec) (v : Int32) : Sec := (sErr x, sEff x, sOver x, sTicks x, v)
def wPut_signals (x : Wat) (v : (Nat → Int32)) : Wat := (v, wLeast x, wGreat x, wGtick x, wCnt x)
def wPut_least (x : Wat) (v : (Nat → Int32)) : Wat := (wSig x, v, wGreat x, wGtick x, wCnt x)
def wPut_greatest (x : Wat) (v : (Nat → Int32)) : Wat := (wSig x, wLeast x, v, wGtick x, wCnt x)
def wPut_greatestTick (x : Wat) (v : (Nat → Int32)) : Wat := (wSig x, wLeast x, wGreat x, v, wCnt x)
def wPut_count (x : Wat) (v : Int32) : Wat := (wSig x, wLeast x, wGreat x, wGtick x, v)
def lPut_now (x : Lop) (v : Int32) : Lop := (v, lLoad x, lSeed x, lBad x, lGood x, lPres x, lRecs x, lSec x, lWat x)
def lPut_load (x : Lop) (v : Int32) : Lop := (lNow x, v, lSeed x, lBad x, lGood x, lPres x, lRecs x, lSec x, lWat x)
def lPut_seed (x : Lop) (v : Int32) : Lop := (lNow x, lLoad x, v, lBad x, lGood x, lPres x, lRecs x, lSec x, lWat x)
def lPut_badTicks (x : Lop) (v : Int32) : Lop := (lNow x, lLoad x, lSeed x, v, lGood x, lPres x, lRecs x, lSec x, lWat x)
def lPut_goodTicks (x : Lop) (v : Int32) : Lop := (lNow x, lLoad x, lSeed x, lBad x, v, lPres x, lRecs x, lSec x, lWat x)
def lPut_present (x : Lop) (v : (Nat → Int32)) : Lop := (lNow x, lLoad x, lSeed x, lBad x, lGood x, v, lRecs x, lSec x, lWat x)
def lPut_records (x : Lop) (v : (Nat → Int32)) : Lop := (lNow x, lLoad x, lSeed x, lBad x, lGood x, lPres x, v, lSec x, lWat x)
def lPut_section (x : Lop) (v : Sec) : Lop := (lNow x, lLoad x, lSeed x, lBad x, lGood x, lPres x, lRecs x, v, lWat x)
def lPut_watches (x : Lop) (v : Wat) : Lop := (lNow x, lLoad x, lSeed x, lBad x, lGood x, lPres x, lRecs x, lSec x, v)
def tPut_characters (x : Txt) (v : (Nat → Int32)) : Txt := (v, tTarg x, tWant x, tLen x, tCnt x)
def tPut_targets (x : Txt) (v : (Nat → Int32)) : Txt := (tChars x, v, tWant x, tLen x, tCnt x)
def tPut_wanted (x : Txt) (v : (Nat → Int32)) : Txt := (tChars x, tTarg x, v, tLen x, tCnt x)
def tPut_length (x : Txt) (v : Int32) : Txt := (tChars x, tTarg x, tWant x, v, tCnt x)
def tPut_count (x : Txt) (v : Int32) : Txt := (tChars x, tTarg x, tWant x, tLen x, v)
def xPut_settings (x : Xst) (v : Sett) : Xst := (v, xChg x, xTxt x, xLoop x, xFst x, xSnd x, xCnt x, xTs x, xIs x, xTrial x, xIdeal x)
def xPut_changes (x : Xst) (v : Chg) : Xst := (xSet x, v, xTxt x, xLoop x, xFst x, xSnd x, xCnt x, xTs x, xIs x, xTrial x, xIdeal x)
def xPut_text (x : Xst) (v : Txt) : Xst := (xSet x, xChg x, v, xLoop x, xFst x, xSnd x, xCnt x, xTs x, xIs x, xTrial x, xIdeal x)
def xPut_loop (x : Xst) (v : Lop) : Xst := (xSet x, xChg x, xTxt x, v, xFst x, xSnd x, xCnt x, xTs x, xIs x, xTrial x, xIdeal x)
def xPut_firstStored (x : Xst) (v : Lop) : Xst := (xSet x, xChg x, xTxt x, xLoop x, v, xSnd x, xCnt x, xTs x, xIs x, xTrial x, xIdeal x)
def xPut_secondStored (x : Xst) (v : Lop) : Xst := (xSet x, xChg x, xTxt x, xLoop x, xFst x, v, xCnt x, xTs x, xIs x, xTrial x, xIdeal x)
def xPut_storedStates (x : Xst) (v : Int32) : Xst := (xSet x, xChg x, xTxt x, xLoop x, xFst x, xSnd x, v, xTs x, xIs x, xTrial x, xIdeal x)
def xPut_trialSettings (x : Xst) (v : Sett) : Xst := (xSet x, xChg x, xTxt x, xLoop x, xFst x, xSnd x, xCnt x, v, xIs x, xTrial x, xIdeal x)
def xPut_idealSettings (x : Xst) (v : Sett) : Xst := (xSet x, xChg x, xTxt x, xLoop x, xFst x, xSnd x, xCnt x, xTs x, v, xTrial x, xIdeal x)
def xPut_trial (x : Xst) (v : Lop) : Xst := (xSet x, xChg x, xTxt x, xLoop x, xFst x, xSnd x, xCnt x, xTs x, xIs x, v, xIdeal x)
def xPut_ideal (x : Xst) (v : Lop) : Xst := (xSet x, xChg x, xTxt x, xLoop x, xFst x, xSnd x, xCnt x, xTs x, xIs x, xTrial x, v)
def mPut_now (x : Mst) (v : (Nat → Int64)) : Mst := (v, mAside x, mKept x, mKm x, mPar x, mParA x, mBef x, mUm x, mLow x, mHigh x, mNames x, mLen x, mText x, mPath x, mIdeal x, mSpot x, mWhich x, mNum x)
def mPut_aside (x : Mst) (v : (Nat → Int64)) : Mst := (mNow x, v, mKept x, mKm x, mPar x, mParA x, mBef x, mUm x, mLow x, mHigh x, mNames x, mLen x, mText x, mPath x, mIdeal x, mSpot x, mWhich x, mNum x)
def mPut_kept (x : Mst) (v : (Nat → Int64)) : Mst := (mNow x, mAside x, v, mKm x, mPar x, mParA x, mBef x, mUm x, mLow x, mHigh x, mNames x, mLen x, mText x, mPath x, mIdeal x, mSpot x, mWhich x, mNum x)
def mPut_keptMany (x : Mst) (v : Int32) : Mst := (mNow x, mAside x, mKept x, v, mPar x, mParA x, mBef x, mUm x, mLow x, mHigh x, mNames x, mLen x, mText x, mPath x, mIdeal x, mSpot x, mWhich x, mNum x)
def mPut_par (x : Mst) (v : (Nat → Int32)) : Mst := (mNow x, mAside x, mKept x, mKm x, v, mParA x, mBef x, mUm x, mLow x, mHigh x, mNames x, mLen x, mText x, mPath x, mIdeal x, mSpot x, mWhich x, mNum x)
def mPut_parAside (x : Mst) (v : (Nat → Int32)) : Mst := (mNow x, mAside x, mKept x, mKm x, mPar x, v, mBef x, mUm x, mLow x, mHigh x, mNames x, mLen x, mText x, mPath x, mIdeal x, mSpot x, mWhich x, mNum x)
def mPut_before (x : Mst) (v : (Nat → Int32)) : Mst := (mNow x, mAside x, mKept x, mKm x, mPar x, mParA x, v, mUm x, mLow x, mHigh x, mNames x, mLen x, mText x, mPath x, mIdeal x, mSpot x, mWhich x, mNum x)
def mPut_undoMany (x : Mst) (v : Int32) : Mst := (mNow x, mAside x, mKept x, mKm x, mPar x, mParA x, mBef x, v, mLow x, mHigh x, mNames x, mLen x, mText x, mPath x, mIdeal x, mSpot x, mWhich x, mNum x)
def mPut_low (x : Mst) (v : (Nat → Int32)) : Mst := (mNow x, mAside x, mKept x, mKm x, mPar x, mParA x, mBef x, mUm x, v, mHigh x, mNames x, mLen x, mText x, mPath x, mIdeal x, mSpot x, mWhich x, mNum x)
def mPut_high (x : Mst) (v : (Nat → Int32)) : Mst := (mNow x, mAside x, mKept x, mKm x, mPar x, mParA x, mBef x, mUm x, mLow x, v, mNames x, mLen x, mText x, mPath x, mIdeal x, mSpot x, mWhich x, mNum x)
def mPut_names (x : Mst) (v : (Nat → Int32)) : Mst := (mNow x, mAside x, mKept x, mKm x, mPar x, mParA x, mBef x, mUm x, mLow x, mHigh x, v, mLen x, mText x, mPath x, mIdeal x, mSpot x, mWhich x, mNum x)
def mPut_length (x : Mst) (v : Int32) : Mst := (mNow x, mAside x, mKept x, mKm x, mPar x, mParA x, mBef x, mUm x, mLow x, mHigh x, mNames x, v, mText x, mPath x, mIdeal x, mSpot x, mWhich x, mNum x)
def mPut_text (x : Mst) (v : (Nat → Int32)) : Mst := (mNow x, mAside x, mKept x, mKm x, mPar x, mParA x, mBef x, mUm x, mLow x, mHigh x, mNames x, mLen x, v, mPath x, mIdeal x, mSpot x, mWhich x, mNum x)
def mPut_path (x : Mst) (v : (Nat → Int64)) : Mst := (mNow x, mAside x, mKept x, mKm x, mPar x, mParA x, mBef x, mUm x, mLow x, mHigh x, mNames x, mLen x, mText x, v, mIdeal x, mSpot x, mWhich x, mNum x)
def mPut_isIdeal (x : Mst) (v : Int32) : Mst := (mNow x, mAside x, mKept x, mKm x, mPar x, mParA x, mBef x, mUm x, mLow x, mHigh x, mNames x, mLen x, mText x, mPath x, v, mSpot x, mWhich x, mNum x)
def mPut_spot (x : Mst) (v : Int32) : Mst := (mNow x, mAside x, mKept x, mKm x, mPar x, mParA x, mBef x, mUm x, mLow x, mHigh x, mNames x, mLen x, mText x, mPath x, mIdeal x, v, mWhich x, mNum x)
def mPut_which (x : Mst) (v : Int32) : Mst := (mNow x, mAside x, mKept x, mKm x, mPar x, mParA x, mBef x, mUm x, mLow x, mHigh x, mNames x, mLen x, mText x, mPath x, mIdeal x, mSpot x, v, mNum x)
def mPut_number (x : Mst) (v : Int32) : Mst := (mNow x, mAside x, mKept x, mKm x, mPar x, mParA x, mBef x, mUm x, mLow x, mHigh x, mNames x, mLen x, mText x, mPath x, mIdeal x, mSpot x, mWhich x, v)
def setW (Γ : gT) (a : Nat → Nat) (b : Nat) (x : Sett) : va_W := [((a b), .inr (3, [.ref (a (b + 1))])), ((a (b + 1)), .inl (cI Γ, 15, .inl x))]
def secW (Γ : gT) (a : Nat → Nat) (b : Nat) (x : Sec) : va_W := [((a b), .inr (2, [.long (sErr x), .long (sEff x), .int (sOver x), .int (sTicks x), .int (sUp x)]))]
def watW (Γ : gT) (a : Nat → Nat) (b : Nat) (x : Wat) : va_W := [((a b), .inr (5, [.ref (a (b + 1)), .ref (a (b + 2)), .ref (a (b + 3)), .ref (a (b + 4)), .int (wCnt x)])), ((a (b + 1)), .inl (cI Γ, 4, .inl (wSig x))), ((a (b + 2)), .inl (cI Γ, 4, .inl (wLeast x))), ((a (b + 3)), .inl (cI Γ, 4, .inl (wGreat x))), ((a (b + 4)), .inl (cI Γ, 4, .inl (wGtick x)))]
def chgW (Γ : gT) (a : Nat → Nat) (b : Nat) (x : Chg) : va_W := [((a b), .inr (0, [.ref (a (b + 1)), .int (cCnt x)])), ((a (b + 1)), .inl (cR Γ, 6, .inr (.inr (.inr (.inr (fun i => if i < 6 then some (a (b + 2 + i)) else none)))))), ((a (b + 2)), .inl (cI Γ, 15, .inl ((cRows x) 0))), ((a (b + 3)), .inl (cI Γ, 15, .inl ((cRows x) 1))), ((a (b + 4)), .inl (cI Γ, 15, .inl ((cRows x) 2))), ((a (b + 5)), .inl (cI Γ, 15, .inl ((cRows x) 3))), ((a (b + 6)), .inl (cI Γ, 15, .inl ((cRows x) 4))), ((a (b + 7)), .inl (cI Γ, 15, .inl ((cRows x) 5)))]
def txtW (Γ : gT) (a : Nat → Nat) (b : Nat) (x : Txt) : va_W := [((a b), .inr (4, [.ref (a (b + 1)), .ref (a (b + 2)), .ref (a (b + 3)), .int (tLen x), .int (tCnt x)])), ((a (b + 1)), .inl (cC Γ, 80, .inl (tChars x))), ((a (b + 2)), .inl (cI Γ, 16, .inl (tTarg x))), ((a (b + 3)), .inl (cI Γ, 16, .inl (tWant x)))]
def arrP (Γ : gT) (a : Nat → Nat) (b : Nat) (x : (Nat → Int32)) : va_W := [((a b), .inl (cI Γ, 10, .inl x))]
def lopW (Γ : gT) (a : Nat → Nat) (b : Nat) (x : Lop) : va_W := ((a b), .inr (1, [.int (lNow x), .int (lLoad x), .int (lSeed x), .int (lBad x), .int (lGood x), .ref (a (b + 1)), .ref (a (b + 2)), .ref (a (b + 3)), .ref (a (b + 4))])) :: ((a (b + 1)), .inl (cI Γ, 10, .inl (lPres x))) :: ((a (b + 2)), .inl (cI Γ, 640, .inl (lRecs x))) :: (secW Γ a (b + 3) (lSec x) ++ watW Γ a (b + 4) (lWat x))
def xW (Γ : gT) (a : Nat → Nat) (x : Xst) : va_W := ((a 0), .inr (6, [.ref (a 1), .ref (a 3), .ref (a 11), .ref (a 15), .ref (a 24), .ref (a 33), .int (xCnt x), .ref (a 42), .ref (a 44), .ref (a 46), .ref (a 55)])) :: (setW Γ a 1 (xSet x) ++ (chgW Γ a 3 (xChg x) ++ (txtW Γ a 11 (xTxt x) ++ (lopW Γ a 15 (xLoop x) ++ (lopW Γ a 24 (xFst x) ++ (lopW Γ a 33 (xSnd x) ++ (setW Γ a 42 (xTs x) ++ (setW Γ a 44 (xIs x) ++ (lopW Γ a 46 (xTrial x) ++ lopW Γ a 55 (xIdeal x))))))))))
theorem xB_at_settings (Γ : gT) (a : Nat → Nat) (x : Xst) : ([1, 2] : List Nat).map (fun i => (xW Γ a x)[i]?) = (setW Γ a 1 (xSet x)).map some := rfl
theorem xB_up_settings (Γ : gT) (a : Nat → Nat) (x : Xst) (v : Sett) : va_upd (xW Γ a x) [1, 2] (setW Γ a 1 v) = xW Γ a (xPut_settings x v) := rfl
theorem xB_at_changes (Γ : gT) (a : Nat → Nat) (x : Xst) : ([3, 4, 5, 6, 7, 8, 9, 10] : List Nat).map (fun i => (xW Γ a x)[i]?) = (chgW Γ a 3 (xChg x)).map some := rfl
theorem xB_up_changes (Γ : gT) (a : Nat → Nat) (x : Xst) (v : Chg) : va_upd (xW Γ a x) [3, 4, 5, 6, 7, 8, 9, 10] (chgW Γ a 3 v) = xW Γ a (xPut_changes x v) := rfl
theorem xB_at_text (Γ : gT) (a : Nat → Nat) (x : Xst) : ([11, 12, 13, 14] : List Nat).map (fun i => (xW Γ a x)[i]?) = (txtW Γ a 11 (xTxt x)).map some := rfl
theorem xB_up_text (Γ : gT) (a : Nat → Nat) (x : Xst) (v : Txt) : va_upd (xW Γ a x) [11, 12, 13, 14] (txtW Γ a 11 v) = xW Γ a (xPut_text x v) := rfl
theorem xB_at_loop (Γ : gT) (a : Nat → Nat) (x : Xst) : ([15, 16, 17, 18, 19, 20, 21, 22, 23] : List Nat).map (fun i => (xW Γ a x)[i]?) = (lopW Γ a 15 (xLoop x)).map some := rfl
theorem xB_up_loop (Γ : gT) (a : Nat → Nat) (x : Xst) (v : Lop) : va_upd (xW Γ a x) [15, 16, 17, 18, 19, 20, 21, 22, 23] (lopW Γ a 15 v) = xW Γ a (xPut_loop x v) := rfl
theorem xB_at_firstStored (Γ : gT) (a : Nat → Nat) (x : Xst) : ([24, 25, 26, 27, 28, 29, 30, 31, 32] : List Nat).map (fun i => (xW Γ a x)[i]?) = (lopW Γ a 24 (xFst x)).map some := rfl
theorem xB_up_firstStored (Γ : gT) (a : Nat → Nat) (x : Xst) (v : Lop) : va_upd (xW Γ a x) [24, 25, 26, 27, 28, 29, 30, 31, 32] (lopW Γ a 24 v) = xW Γ a (xPut_firstStored x v) := rfl
theorem xB_at_secondStored (Γ : gT) (a : Nat → Nat) (x : Xst) : ([33, 34, 35, 36, 37, 38, 39, 40, 41] : List Nat).map (fun i => (xW Γ a x)[i]?) = (lopW Γ a 33 (xSnd x)).map some := rfl
theorem xB_up_secondStored (Γ : gT) (a : Nat → Nat) (x : Xst) (v : Lop) : va_upd (xW Γ a x) [33, 34, 35, 36, 37, 38, 39, 40, 41] (lopW Γ a 33 v) = xW Γ a (xPut_secondStored x v) := rfl
theorem xB_at_trialSettings (Γ : gT) (a : Nat → Nat) (x : Xst) : ([42, 43] : List Nat).map (fun i => (xW Γ a x)[i]?) = (setW Γ a 42 (xTs x)).map some := rfl
theorem xB_up_trialSettings (Γ : gT) (a : Nat → Nat) (x : Xst) (v : Sett) : va_upd (xW Γ a x) [42, 43] (setW Γ a 42 v) = xW Γ a (xPut_trialSettings x v) := rfl
theorem xB_at_idealSettings (Γ : gT) (a : Nat → Nat) (x : Xst) : ([44, 45] : List Nat).map (fun i => (xW Γ a x)[i]?) = (setW Γ a 44 (xIs x)).map some := rfl
theorem xB_up_idealSettings (Γ : gT) (a : Nat → Nat) (x : Xst) (v : Sett) : va_upd (xW Γ a x) [44, 45] (setW Γ a 44 v) = xW Γ a (xPut_idealSettings x v) := rfl
theorem xB_at_trial (Γ : gT) (a : Nat → Nat) (x : Xst) : ([46, 47, 48, 49, 50, 51, 52, 53, 54] : List Nat).map (fun i => (xW Γ a x)[i]?) = (lopW Γ a 46 (xTrial x)).map some := rfl
theorem xB_up_trial (Γ : gT) (a : Nat → Nat) (x : Xst) (v : Lop) : va_upd (xW Γ a x) [46, 47, 48, 49, 50, 51, 52, 53, 54] (lopW Γ a 46 v) = xW Γ a (xPut_trial x v) := rfl
theorem xB_at_ideal (Γ : gT) (a : Nat → Nat) (x : Xst) : ([55, 56, 57, 58, 59, 60, 61, 62, 63] : List Nat).map (fun i => (xW Γ a x)[i]?) = (lopW Γ a 55 (xIdeal x)).map some := rfl
theorem xB_up_ideal (Γ : gT) (a : Nat → Nat) (x : Xst) (v : Lop) : va_upd (xW Γ a x) [55, 56, 57, 58, 59, 60, 61, 62, 63] (lopW Γ a 55 v) = xW Γ a (xPut_ideal x v) := rfl
theorem va_upd_app : ∀ (is1 : List Nat) (w1 ws : va_W) (is2 : List Nat) (w2 : va_W), is1.length = w1.length → va_upd ws (is1 ++ is2) (w1 ++ w2) = va_upd (va_upd ws is1 w1) is2 w2
  | [], [], ws, is2, w2, _ => by simp [va_upd]
  | [], _ :: _, _, _, _, h => by simp at h
  | _ :: _, [], _, _, _, h => by simp at h
  | i :: is, c :: cs, ws, is2, w2, h => va_upd_app is cs (ws.set i c) is2 w2 (by simpa using h)
theorem map_app2 {f : Nat → Option (Nat × va_E)} {is1 is2 : List Nat} {w1 w2 : va_W} (h1 : is1.map f = w1.map some) (h2 : is2.map f = w2.map some) : (is1 ++ is2).map f = (w1 ++ w2).map some := by rw [List.map_append, List.map_append, h1, h2]
theorem xW_addr (Γ : gT) (a : Nat → Nat) (x y : Xst) : (xW Γ a x).map (fun q => q.1) = (xW Γ a y).map (fun q => q.1) := rfl
/-! the library's functions -/
abbrev iRem (x y : Int32) : Int32 := x - x / y * y
abbrev lRem (x y : Int64) : Int64 := x - x / y * y
def kMax (x y : Int32) : Int32 := if x < y then y else x
def kMin (x y : Int32) : Int32 := if y < x then y else x
def kAbs (x : Int32) : Int32 := if 0 ≤ x then x else 0 - x
def kMaxL (x y : Int64) : Int64 := if y < x then x else y
def kMinL (x y : Int64) : Int64 := if y < x then y else x
/-- a switch's last road -/
theorem tbl_out (x : Int32) (lo hi : Int) (h1 : -2147483648 ≤ lo) (h2 : hi ≤ 2147483647) (h : ¬ (lo ≤ x.toInt ∧ x.toInt ≤ hi)) : x.toInt < lo ∨ hi < x.toInt := by omega
