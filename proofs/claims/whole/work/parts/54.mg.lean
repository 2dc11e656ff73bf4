/-! the reference's public methods: r.. answers, h.. makes -/
def mZeroN (n : mRow) : Nat → mRow
  | 0 => n
  | k + 1 => vp_updL (mZeroN n k) k 0
def mCpL (f g : mRow) : Nat → mRow
  | 0 => f
  | k + 1 => vp_updL (mCpL f g k) k (g k)
def mCpI (f g : Nat → Int32) : Nat → Nat → Int32
  | 0 => f
  | k + 1 => upd (mCpI f g k) k (g k)
def mCpTo (f g : mRow) (o : Nat) : Nat → mRow
  | 0 => f
  | k + 1 => vp_updL (mCpTo f g o k) (o + k) (g k)
def mCpFrom (f g : mRow) (o : Nat) : Nat → mRow
  | 0 => f
  | k + 1 => vp_updL (mCpFrom f g o k) k (g (o + k))
def mSh (B : Nat → Int32) : Nat → Nat → Int32
  | 0 => B
  | k + 1 => upd (mSh B k) k ((mSh B k) (15 + k))
def mPutRow (B q : Nat → Int32) (o : Nat) : Nat → Nat → Int32
  | 0 => B
  | k + 1 => upd (mPutRow B q o k) (o + k) (q k)
def mGetRow (q B : Nat → Int32) (o : Nat) : Nat → Nat → Int32
  | 0 => q
  | k + 1 => upd (mGetRow q B o k) k (B (o + k))
def mKpB (B : Nat → Int32) (um : Int32) : Nat → Int32 := if um = 6 then mSh B 75 else B
def mKpU (um : Int32) : Int32 := if um = 6 then um - 1 else um
def mKeepB (B q : Nat → Int32) (um : Int32) : Nat → Int32 := mPutRow (mKpB B um) q (15 * (mKpU um).toNatClampNeg) 15
def mKeeps (μ : Mst) : Mst := mPut_undoMany (mPut_before μ (mKeepB (mBef μ) (mPar μ) (mUm μ))) (mKpU (mUm μ) + 1)
def uOk (u : Int32) : Prop := ∃ U : Nat, U ≤ 6 ∧ u = nI U
def jSetParameter (μ : Mst) (k v : Int32) : Int32 := if fPar k = 0 then -2000000001 else if mIn v.toInt64 (mLow μ k.toNatClampNeg).toInt64 (mHigh μ k.toNatClampNeg).toInt64 = 0 then -2000000001 else mPar μ k.toNatClampNeg
def hSetParameter (μ : Mst) (k v : Int32) : Mst := if fPar k = 0 then μ else if mIn v.toInt64 (mLow μ k.toNatClampNeg).toInt64 (mHigh μ k.toNatClampNeg).toInt64 = 0 then μ else mPut_par (mKeeps μ) (upd (mPar μ) k.toNatClampNeg v)
def jParameter (μ : Mst) (k : Int32) : Int32 := if fPar k = 0 then -2000000001 else mPar μ k.toNatClampNeg
def jUndo (μ : Mst) : Int32 := if mUm μ = 0 then -2000000002 else mUm μ - 1
def hUndo (μ : Mst) : Mst := if mUm μ = 0 then μ else mPut_par (mPut_undoMany μ (mUm μ - 1)) (mGetRow (mPar μ) (mBef μ) (15 * (mUm μ - 1).toNatClampNeg) 15)
def mSetRow (n : mRow) (v : Int32) : mRow := vp_updL (vp_updL (vp_updL (vp_updL (vp_updL (vp_updL n 641 v.toInt64) 655 (n 641).toInt32.toInt64) 656 0) 657 0) 658 0) 659 0
def jSetSetpoint (μ : Mst) (v : Int32) : Int32 := if mIn v.toInt64 (-100000) 100000 = 0 then -2000000001 else (mNow μ 641).toInt32
def hSetSetpoint (μ : Mst) (v : Int32) : Mst := if mIn v.toInt64 (-100000) 100000 = 0 then μ else mPut_now μ (mSetRow (mNow μ) v)
def jSetLoad (μ : Mst) (v : Int32) : Int32 := if mIn v.toInt64 (-100000) 100000 = 0 then -2000000001 else (mNow μ 642).toInt32
def hSetLoad (μ : Mst) (v : Int32) : Mst := if mIn v.toInt64 (-100000) 100000 = 0 then μ else mPut_now μ (vp_updL (mNow μ) 642 v.toInt64)
def jSetSeed (μ : Mst) (v : Int32) : Int32 := if mIn v.toInt64 0 9999 = 0 then -2000000001 else (mNow μ 643).toInt32
def hSetSeed (μ : Mst) (v : Int32) : Mst := if mIn v.toInt64 0 9999 = 0 then μ else mPut_now μ (vp_updL (mNow μ) 643 v.toInt64)
def lenOk (x : Int32) : Prop := ∃ L : Nat, L ≤ 80 ∧ x = nI L
def jType (μ : Mst) (k : Int32) : Int32 := if mIn k.toInt64 32 126 = 0 then -2000000001 else if mLen μ = 80 then -2000000003 else mLen μ + 1
def hType (μ : Mst) (k : Int32) : Mst := if mIn k.toInt64 32 126 = 0 then μ else if mLen μ = 80 then μ else mPut_length (mPut_text μ (upd (mText μ) (mLen μ).toNatClampNeg k)) (mLen μ + 1)
def hClearText (μ : Mst) : Mst := mPut_length μ 0
def mAdv (q : Nat → Int32) (id : Int32) : Nat → mRow → mRow
  | 0, n => n
  | k + 1, n => mAdv q id k (mTick n q id)
theorem mAdv_s (q : Nat → Int32) (id : Int32) (k : Nat) (n : mRow) : mAdv q id (k + 1) n = mAdv q id k (mTick n q id) := rfl
def jRun (μ : Mst) (t : Int32) : Int32 := if mIn t.toInt64 1 500 = 0 then -2000000001 else if mNow μ 640 + t.toInt64 ≤ 100000 then ((mAdv (mPar μ) (mIdeal μ) t.toNatClampNeg (mNow μ)) 640).toInt32 else -2000000003
def hRun (μ : Mst) (t : Int32) : Mst := if mIn t.toInt64 1 500 = 0 then μ else if mNow μ 640 + t.toInt64 ≤ 100000 then mPut_now μ (mAdv (mPar μ) (mIdeal μ) t.toNatClampNeg (mNow μ)) else μ
def mPres (n : mRow) (s : Int32) : Int32 := if s = 0 then (n 641).toInt32 else if s = 1 then (n 652).toInt32 else if s = 2 then (n 651).toInt32 else if s = 3 then (n 645).toInt32 else if s = 4 then (n 653).toInt32 else if s = 5 then (n 646).toInt32 else if s = 6 then (n 654).toInt32 else if s = 7 then (n 647).toInt32 else if s = 8 then (n 644).toInt32 else (n 648).toInt32
def jValue (μ : Mst) (s : Int32) : Int32 := if fSig s = 0 then -2000000001 else mPres (mNow μ) s
def jRecorded (μ : Mst) (s ago : Int32) : Int32 := if fSig s = 0 then -2000000001 else if mIn ago.toInt64 0 63 = 0 then -2000000001 else if mNow μ 640 ≤ ago.toInt64 then -2000000004 else (mAt (mNow μ) s ((mNow μ 640 - 1) - ago.toInt64)).toInt32
def hRestart (μ : Mst) : Mst := mPut_keptMany (mPut_now μ (mZeroN (mNow μ) 681)) 0
def mPlaceN (n : mRow) (sg : Int32) : Nat → Nat → Int32
  | 0, _ => -2000000004
  | k + 1, j => if n 660 ≤ (nI j).toInt64 then -2000000004 else if n (661 + 5 * j) = sg.toInt64 then nI j else mPlaceN n sg k (j + 1)
theorem mPlaceN_s (n : mRow) (sg : Int32) (k j : Nat) : mPlaceN n sg (k + 1) j = if n 660 ≤ (nI j).toInt64 then -2000000004 else if n (661 + 5 * j) = sg.toInt64 then nI j else mPlaceN n sg k (j + 1) := rfl
def mPlace (n : mRow) (sg : Int32) : Int32 := mPlaceN n sg 5 0
def mWatchAt (n : mRow) (pl sg : Int32) : mRow := vp_updL (vp_updL n (661 + 5 * pl.toNatClampNeg) sg.toInt64) (661 + 5 * pl.toNatClampNeg + 1) 0
def mWatchRow (n : mRow) (pl sg : Int32) : mRow := if 0 ≤ pl then mWatchAt n pl sg else if n 660 = 4 then n else mWatchAt (vp_updL n 660 (n 660 + 1)) (n 660).toInt32 sg
def jWatch1 (n : mRow) (pl sg : Int32) : Int32 := if 0 ≤ pl then ((mWatchAt n pl sg) 660).toInt32 else if n 660 = 4 then -2000000003 else ((mWatchAt (vp_updL n 660 (n 660 + 1)) (n 660).toInt32 sg) 660).toInt32
def jWatch (μ : Mst) (s : Int32) : Int32 := if fSig s = 0 then -2000000001 else jWatch1 (mNow μ) (mPlace (mNow μ) s) s
def hWatch (μ : Mst) (s : Int32) : Mst := if fSig s = 0 then μ else mPut_now μ (mWatchRow (mNow μ) (mPlace (mNow μ) s) s)
def mUnwN : Nat → Nat → mRow → mRow
  | 0, _, n => n
  | k + 1, i, n => if 661 + 5 * n 660 ≤ (nI i).toInt64 then n else mUnwN k (i + 1) (vp_updL n i (n (i + 5)))
theorem mUnwN_s (k i : Nat) (n : mRow) : mUnwN (k + 1) i n = if 661 + 5 * n 660 ≤ (nI i).toInt64 then n else mUnwN k (i + 1) (vp_updL n i (n (i + 5))) := rfl
def mUnwRow (n : mRow) (pl : Int32) : mRow := mUnwN 21 (661 + 5 * pl.toNatClampNeg) (vp_updL n 660 (n 660 - 1))
def jUnwatch (μ : Mst) (s : Int32) : Int32 := if fSig s = 0 then -2000000001 else if 0 ≤ mPlace (mNow μ) s then ((mUnwRow (mNow μ) (mPlace (mNow μ) s)) 660).toInt32 else -2000000004
def hUnwatch (μ : Mst) (s : Int32) : Mst := if fSig s = 0 then μ else if 0 ≤ mPlace (mNow μ) s then mPut_now μ (mUnwRow (mNow μ) (mPlace (mNow μ) s)) else μ
def jWatchedAt (μ : Mst) (i : Int32) : Int32 := if 0 ≤ i then (if mNow μ 660 ≤ i.toInt64 then -2000000004 else (mNow μ (661 + 5 * i.toNatClampNeg)).toInt32) else -2000000001
def jExtreme1 (n : mRow) (pl what : Int32) : Int32 := if 0 ≤ pl then (if n (661 + 5 * pl.toNatClampNeg + 1) = 0 then -2000000004 else (n (661 + 5 * pl.toNatClampNeg + 2 + what.toNatClampNeg)).toInt32) else -2000000002
def jExtreme (μ : Mst) (s what : Int32) : Int32 := if fSig s = 0 then -2000000001 else if mIn what.toInt64 0 2 = 0 then -2000000001 else jExtreme1 (mNow μ) (mPlace (mNow μ) s) what
def jMeasure (μ : Mst) (k : Int32) : Int64 := if mIn k.toInt64 0 3 = 0 then -2000000001 else mNow μ (656 + k.toNatClampNeg)
def mSetN (n : mRow) (tol : Int32) : Nat → Nat → Int32
  | 0, i => nI i
  | k + 1, i => if 64 ≤ nI i then nI i else if n 659 ≤ (nI i).toInt64 then nI i else if tol.toInt64 < mSize (mAt n 0 ((n 640 - 1) - (nI i).toInt64) - mAt n 1 ((n 640 - 1) - (nI i).toInt64)) then nI i else mSetN n tol k (i + 1)
theorem mSetN_s (n : mRow) (tol : Int32) (k i : Nat) : mSetN n tol (k + 1) i = if 64 ≤ nI i then nI i else if n 659 ≤ (nI i).toInt64 then nI i else if tol.toInt64 < mSize (mAt n 0 ((n 640 - 1) - (nI i).toInt64) - mAt n 1 ((n 640 - 1) - (nI i).toInt64)) then nI i else mSetN n tol k (i + 1) := rfl
def jSettled (μ : Mst) (tol : Int32) : Int32 := if mIn tol.toInt64 0 100000 = 0 then -2000000001 else mSetN (mNow μ) tol 65 0
def jStore (μ : Mst) : Int32 := if mKm μ = 2 then -2000000003 else mKm μ + 1
def hStore (μ : Mst) : Mst := if mKm μ = 2 then μ else mPut_keptMany (mPut_kept μ (mCpTo (mKept μ) (mNow μ) (681 * (mKm μ).toNatClampNeg) 681)) (mKm μ + 1)
def jRecall (μ : Mst) : Int32 := if mKm μ = 0 then -2000000002 else mKm μ - 1
def hRecall (μ : Mst) : Mst := if mKm μ = 0 then μ else mPut_now (mPut_keptMany μ (mKm μ - 1)) (mCpFrom (mNow μ) (mKept μ) (681 * (mKm μ - 1).toNatClampNeg) 681)
def mCorT (n : mRow) (lag : Int32) (t : Int64) : Int64 := (mAt n 2 ((t - 1) - lag.toInt64) - mAt n 2 ((t - 2) - lag.toInt64)) * (mAt n 1 t - mAt n 1 (t - 1))
def mCorN (n : mRow) (lag : Int32) : Nat → Int64 → Int64 → Int64
  | 0, _, sum => sum
  | k + 1, t, sum => if t < 0 then sum else if t < n 640 - 32 then sum else mCorN n lag k (t - 1) (sum + mCorT n lag t)
theorem mCorN_s (n : mRow) (lag : Int32) (k : Nat) (t sum : Int64) : mCorN n lag (k + 1) t sum = if t < 0 then sum else if t < n 640 - 32 then sum else mCorN n lag k (t - 1) (sum + mCorT n lag t) := rfl
def mCorS (n : mRow) (lag : Int32) : Int64 := mCorN n lag 33 (n 640 - 1) 0
def mCor (n : mRow) (q : Nat → Int32) (lag : Int32) : Int64 := if 0 ≤ q 5 then mCorS n lag else -(mCorS n lag)
def jCorrelation (μ : Mst) (lag : Int32) : Int64 := if mIn lag.toInt64 0 30 = 0 then -2000000001 else mCor (mNow μ) (mPar μ) lag
def mLagN (n : mRow) (q : Nat → Int32) : Nat → Nat → Int32 → Int64 → Int32
  | 0, _, best, _ => best
  | k + 1, j, best, most => if 30 < nI j then best else mLagN n q k (j + 1) (if mCor n q (nI j) ≤ most then best else nI j) (if mCor n q (nI j) ≤ most then most else mCor n q (nI j))
theorem mLagN_s (n : mRow) (q : Nat → Int32) (k j : Nat) (best : Int32) (most : Int64) : mLagN n q (k + 1) j best most = if 30 < nI j then best else mLagN n q k (j + 1) (if mCor n q (nI j) ≤ most then best else nI j) (if mCor n q (nI j) ≤ most then most else mCor n q (nI j)) := rfl
def mLag (n : mRow) (q : Nat → Int32) : Int32 := mLagN n q 32 0 (-2000000004) 0
def mMayN (n : mRow) (q : Nat → Int32) (best : Int32) : Nat → Nat → Int32 → Int32
  | 0, _, may => may
  | k + 1, j, may => if 30 < nI j then may else if may = 0 then may else mMayN n q best k (j + 1) (if nI j = best then 1 else if mCor n q best < 2 * mCor n q (nI j) then 0 else 1)
theorem mMayN_s (n : mRow) (q : Nat → Int32) (best : Int32) (k j : Nat) (may : Int32) : mMayN n q best (k + 1) j may = if 30 < nI j then may else if may = 0 then may else mMayN n q best k (j + 1) (if nI j = best then 1 else if mCor n q best < 2 * mCor n q (nI j) then 0 else 1) := rfl
def mMay (n : mRow) (q : Nat → Int32) (best : Int32) : Int32 := mMayN n q best 32 0 (if best < 0 then 0 else 1)
def jTune (μ : Mst) : Int32 := if mMay (mNow μ) (mPar μ) (mLag (mNow μ) (mPar μ)) = 0 then -2000000002 else 10 * mLag (mNow μ) (mPar μ)
def hTune (μ : Mst) : Mst := if mMay (mNow μ) (mPar μ) (mLag (mNow μ) (mPar μ)) = 0 then μ else mPut_par (mKeeps μ) (upd (mPar μ) 7 (10 * mLag (mNow μ) (mPar μ)))
/-- aside and back -/
def mAsideL (μ : Mst) : mRow := mCpL (mAside μ) (mNow μ) 681
def mAsideP (μ : Mst) : Nat → Int32 := mCpI (mParA μ) (mPar μ) 15
def hAside (μ : Mst) (n : mRow) (q : Nat → Int32) : Mst := mPut_par (mPut_now (mPut_parAside (mPut_aside μ (mAsideL μ)) (mAsideP μ)) (mCpL n (mAsideL μ) 681)) (mCpI q (mAsideP μ) 15)
def jAhead (μ : Mst) (t s : Int32) : Int32 := if mIn t.toInt64 1 500 = 0 then -2000000001 else if fSig s = 0 then -2000000001 else mPres (mAdv (mPar μ) (mIdeal μ) t.toNatClampNeg (mNow μ)) s
def hAhead (μ : Mst) (t s : Int32) : Mst := if mIn t.toInt64 1 500 = 0 then μ else if fSig s = 0 then μ else hAside μ (mAdv (mPar μ) (mIdeal μ) t.toNatClampNeg (mNow μ)) (mPar μ)
/-- a gain tried: the parameters, the row behind T ticks -/
def mGainQ (q A : Nat → Int32) (g : Int32) : Nat → Int32 := upd (mCpI q A 15) 0 g
def mGainN (n A : mRow) (q1 : Nat → Int32) (id : Int32) (T : Nat) : mRow := mAdv q1 id T (vp_updL (mCpL n A 681) 656 0)
def mBGN (A : mRow) (AQ : Nat → Int32) (id : Int32) (T : Nat) : Nat → Nat → Int32 → Int64 → mRow → (Nat → Int32) → Int32 × mRow × (Nat → Int32)
  | 0, _, best, _, n, q => (best, n, q)
  | k + 1, j, best, least, n, q => if 5000 < nI (250 * j) then (best, n, q) else mBGN A AQ id T k (j + 1) (if nI (250 * j) = 0 then nI (250 * j) else if least ≤ mGainN n A (mGainQ q AQ (nI (250 * j))) id T 656 then best else nI (250 * j)) (if nI (250 * j) = 0 then mGainN n A (mGainQ q AQ (nI (250 * j))) id T 656 else if least ≤ mGainN n A (mGainQ q AQ (nI (250 * j))) id T 656 then least else mGainN n A (mGainQ q AQ (nI (250 * j))) id T 656) (mGainN n A (mGainQ q AQ (nI (250 * j))) id T) (mGainQ q AQ (nI (250 * j)))
theorem mBGN_s (A : mRow) (AQ : Nat → Int32) (id : Int32) (T k j : Nat) (best : Int32) (least : Int64) (n : mRow) (q : Nat → Int32) : mBGN A AQ id T (k + 1) j best least n q = if 5000 < nI (250 * j) then (best, n, q) else mBGN A AQ id T k (j + 1) (if nI (250 * j) = 0 then nI (250 * j) else if least ≤ mGainN n A (mGainQ q AQ (nI (250 * j))) id T 656 then best else nI (250 * j)) (if nI (250 * j) = 0 then mGainN n A (mGainQ q AQ (nI (250 * j))) id T 656 else if least ≤ mGainN n A (mGainQ q AQ (nI (250 * j))) id T 656 then least else mGainN n A (mGainQ q AQ (nI (250 * j))) id T 656) (mGainN n A (mGainQ q AQ (nI (250 * j))) id T) (mGainQ q AQ (nI (250 * j))) := rfl
def mBG (μ : Mst) (T : Nat) : Int32 × mRow × (Nat → Int32) := mBGN (mAsideL μ) (mAsideP μ) (mIdeal μ) T 22 0 0 0 (mNow μ) (mPar μ)
def jBest (μ : Mst) (t : Int32) : Int32 := if mIn t.toInt64 1 100 = 0 then -2000000001 else (mBG μ t.toNatClampNeg).1
def hBest (μ : Mst) (t : Int32) : Mst := if mIn t.toInt64 1 100 = 0 then μ else hAside μ (mBG μ t.toNatClampNeg).2.1 (mBG μ t.toNatClampNeg).2.2
/-- the path of the loop with dead time; the one without it beside -/
def mPathN (q : Nat → Int32) (id : Int32) : Nat → Nat → mRow → mRow → mRow × mRow
  | 0, _, P, n => (P, n)
  | k + 1, i, P, n => mPathN q id k (i + 1) (vp_updL P i (n 644)) (mTick n q id)
theorem mPathN_s (q : Nat → Int32) (id : Int32) (k i : Nat) (P n : mRow) : mPathN q id (k + 1) i P n = mPathN q id k (i + 1) (vp_updL P i (n 644)) (mTick n q id) := rfl
def mFarN (q : Nat → Int32) (P : mRow) (J : Nat) : Nat → Nat → Int64 → mRow → Int64 × mRow
  | 0, _, most, n => (most, n)
  | k + 1, i, most, n => mFarN q P J k (i + 1) (if mSize (P (i + J) - n 644) ≤ most then most else mSize (P (i + J) - n 644)) (mTick n q 1)
theorem mFarN_s (q : Nat → Int32) (P : mRow) (J k i : Nat) (most : Int64) (n : mRow) : mFarN q P J (k + 1) i most n = mFarN q P J k (i + 1) (if mSize (P (i + J) - n 644) ≤ most then most else mSize (P (i + J) - n 644)) (mTick n q 1) := rfl
def mClr (n : mRow) (sp : Int64) : mRow := vp_updL (mZeroN n 681) 641 sp
def mIdQ (μ : Mst) : Nat → Int32 := upd (mPar μ) 14 0
def mIdJ (μ : Mst) : Nat := (mPar μ 4 / 10).toNatClampNeg
def mIdP (μ : Mst) (T : Nat) : mRow × mRow := mPathN (mIdQ μ) (mIdeal μ) (T + mIdJ μ + 1) 0 (mPath μ) (mClr (mNow μ) (mNow μ 641))
def mIdF (μ : Mst) (T : Nat) : Int64 × mRow := mFarN (mIdQ μ) (mIdP μ T).1 (mIdJ μ) (T + 1) 0 0 (mClr (mIdP μ T).2 (mNow μ 641))
def jIdeal (μ : Mst) (t : Int32) : Int32 := if mIn t.toInt64 1 200 = 0 then -2000000001 else (mIdF μ t.toNatClampNeg).1.toInt32
def hIdeal (μ : Mst) (t : Int32) : Mst := if mIn t.toInt64 1 200 = 0 then μ else hAside (mPut_isIdeal (mPut_path μ (mIdP μ t.toNatClampNeg).1) 0) (mIdF μ t.toNatClampNeg).2 (mIdQ μ)
/-! what the walks want -/
theorem rng_of {x : Int32} (lo hi : Nat) (hlo : lo < 2 ^ 31) (hhi : hi < 2 ^ 31) (h : ¬ mIn x.toInt64 (nI lo).toInt64 (nI hi).toInt64 = 0) : x = nI x.toNatClampNeg ∧ lo ≤ x.toNatClampNeg ∧ x.toNatClampNeg ≤ hi := by
  rw [mIn_i] at h
  by_cases c1 : x < nI lo
  · rw [if_pos c1] at h; exact absurd rfl h
  · rw [if_neg c1] at h
    by_cases c2 : nI hi < x
    · rw [if_pos c2] at h; exact absurd rfl h
    · have h0 : ¬ x < 0 := fun q => c1 (Int32.lt_of_lt_of_le q (by rw [show (0 : Int32) = nI 0 from rfl]; exact nI_le (Nat.zero_le _) hlo))
      obtain ⟨j, hj, rfl⟩ := nI_of h0
      rw [nI_clamp hj]
      rw [nI_ltI hj hlo] at c1
      rw [nI_ltI hhi hj] at c2
      exact ⟨rfl, by omega, by omega⟩
theorem t640_rec {n : mRow} {sg : Int32} {v : Int64} (hsg : vp_in sg 10) (h : mOk n) : mRec n sg v 640 = n 640 := mRec_hi hsg h.1 (Nat.le_refl _)
theorem t640_jud2 (n : mRow) (bd gd : Int64) (turn : Int32) : mJud2 n bd gd turn 640 = n 640 := by
  unfold mJud2
  by_cases c : turn = 0
  · rw [if_pos c, pk_uLn (by decide), pk_uLn (by decide)]
  · rw [if_neg c, pk_uLn (by decide), pk_uLn (by decide), pk_uLn (by decide), pk_uLn (by decide), pk_uLn (by decide)]
theorem t640_jud (n : mRow) (q : Nat → Int32) (mis : Int64) : mJud n q mis 640 = n 640 := t640_jud2 n _ _ _
theorem t640_ctl (n : mRow) (q : Nat → Int32) (id : Int32) : mCtl n q id 640 = n 640 := by
  unfold mCtl mCtl1 mCtl2 mCtl3 mCtl4 mCtl5
  rw [pk_uLn (by decide), pk_uLn (by decide), pk_uLn (by decide), pk_uLn (by decide)]
theorem t640_mea (n : mRow) : mMea n 640 = n 640 := by
  unfold mMea mMea1
  rw [pk_uLn (by decide), pk_uLn (by decide), pk_uLn (by decide)]
theorem t640_wat5 (n : mRow) (j : Nat) (v : Int64) : mWat5 n j v 640 = n 640 := by
  unfold mWat5
  rw [pk_uLn (by omega), pk_uLn (by omega)]
theorem t640_wat3 (n : mRow) (j : Nat) (v : Int64) (first : Int32) : mWat3 n j v first 640 = n 640 := by
  unfold mWat3
  rw [pk_uLn (by omega)]
theorem t640_wat4 (n : mRow) (j : Nat) (v : Int64) (first : Int32) : mWat4 n j v first 640 = n 640 := by
  unfold mWat4
  rw [pk_uLn (by omega)]
  by_cases c1 : first = 0
  · by_cases c2 : v ≤ n (661 + 5 * j + 3)
    · rw [if_pos c1, if_pos c2]
    · rw [if_pos c1, if_neg c2]; exact t640_wat5 n j v
  · rw [if_neg c1]; exact t640_wat5 n j v
theorem t640_wat1 (n : mRow) (j : Nat) : mWat1 n j 640 = n 640 := by
  unfold mWat1 mWat2
  rw [t640_wat4, t640_wat3]
theorem t640_watN : ∀ (k j : Nat) (n : mRow), mWatN k j n 640 = n 640
  | 0, _, _ => rfl
  | k + 1, j, n => by
    rw [mWatN_s]
    by_cases c : n 660 ≤ (nI j).toInt64
    · rw [if_pos c]
    · rw [if_neg c, t640_watN k (j + 1), t640_wat1]
theorem t640_wat (n : mRow) : mWat n 640 = n 640 := t640_watN 5 0 n
/-- a stage keeps the row well, and its time -/
def mKp2 (n m : mRow) : Prop := mOk m ∧ m 640 = n 640
theorem mKp2.tr {n m o : mRow} (h : mKp2 n m) (h2 : mOk m → mKp2 m o) : mKp2 n o := ⟨(h2 h.1).1, (h2 h.1).2.trans h.2⟩
theorem kp_rec {n : mRow} (k : Nat) (hk : k < 10) (x : Int32) (hx : x = nI k) (v : Int64) (h : mOk n) : mKp2 n (mRec n x v) := ⟨mOk_rec (vin_lit k hk (by decide) hx) h, t640_rec (vin_lit k hk (by decide) hx) h⟩
theorem kp_upd {n : mRow} (j : Nat) (hj : 640 < j ∧ j < 660) (v : Int64) (h : mOk n) : mKp2 n (vp_updL n j v) := ⟨mOk_upd hj h, pk_uLn (by omega)⟩
theorem kp_E {n : mRow} (h : mOk n) : mKp2 n (mTkE n) :=
  mKp2.tr (m := mTkE5 (mTkE4 (mTkE3 (mTkE2 (mTkE1 (mTkE0 n))))))
   (mKp2.tr (m := mTkE4 (mTkE3 (mTkE2 (mTkE1 (mTkE0 n)))))
    (mKp2.tr (m := mTkE3 (mTkE2 (mTkE1 (mTkE0 n))))
     (mKp2.tr (m := mTkE2 (mTkE1 (mTkE0 n)))
      (mKp2.tr (m := mTkE1 (mTkE0 n))
       (mKp2.tr (m := mTkE0 n) (kp_rec 0 (by decide) 0 rfl _ h) (fun h => kp_rec 1 (by decide) 1 rfl _ h))
       (fun h => kp_rec 4 (by decide) 4 rfl _ h))
      (fun h => kp_rec 5 (by decide) 5 rfl _ h))
     (fun h => kp_rec 6 (by decide) 6 rfl _ h))
    (fun h => kp_rec 7 (by decide) 7 rfl _ h))
   (fun h => kp_rec 9 (by decide) 9 rfl _ h)
theorem kp_C {n : mRow} (q : Nat → Int32) (d : Int64) (h : mOk n) : mKp2 n (mTkC n q d) :=
  ((kp_upd 653 (by decide) d h).tr (fun h => kp_upd 646 (by decide) _ h)).tr (fun h => ⟨mOk_jud h, t640_jud _ _ _⟩)
theorem kp_A {n : mRow} (q : Nat → Int32) (h : mOk n) : mKp2 n (mTkA n q) := (kp_upd 652 (by decide) _ h).tr (fun h => kp_rec 3 (by decide) 3 rfl _ h)
theorem kp_B {n : mRow} (h : mOk n) : mKp2 n (mTkB n) := kp_rec 8 (by decide) 8 rfl _ h
theorem kp_D {n : mRow} (h : mOk n) : mKp2 n (mTkD n) := kp_rec 2 (by decide) 2 rfl _ h
theorem mOk_tkF {n : mRow} (q : Nat → Int32) (v : Int64) {N : Nat} (h : mOk n) (hN : n 640 = lN N) (h2 : N < 2 ^ 31) : mOk (mTkF n q v) ∧ mTkF n q v 640 = lN (N + 1) := by
  have e : mTkF n q v 640 = lN (N + 1) := by
    unfold mTkF
    rw [pk_uLs, hN]; exact lN_1 N
  refine ⟨?_, e⟩
  have h1 : mOk (vp_updL (vp_updL n 644 (mSteps (n 644) (mFloor ((q 2).toInt64 * (v + n 642)) 1000) (1000 - q 3))) 645 (mSteps (n 645) (mFloor ((q 5).toInt64 * n 651) 1000) (1000 - q 6))) := mOk_upd (by decide) (mOk_upd (by decide) h)
  obtain ⟨-, k, hk, h3, h4⟩ := h1
  refine ⟨by rw [e, show (0 : Int64) = lN 0 from rfl, pk_lLE (by decide) (by omega)]; omega, k, hk, ?_, fun j hj => ?_⟩
  · unfold mTkF; rw [pk_uLn (by decide)]; exact h3
  · unfold mTkF; rw [pk_uLn (by omega)]; exact h4 j hj
theorem mOk_tick {n : mRow} (q : Nat → Int32) (id : Int32) {N : Nat} (h : mOk n) (hN : n 640 = lN N) (h2 : N < 2 ^ 31) : mOk (mTick n q id) ∧ mTick n q id 640 = lN (N + 1) := by
  have h1 := (kp_A q h).tr (fun h => kp_B h)
  have h2' := h1.tr (fun h => kp_C q (mDel (mTkB (mTkA n q)) 3 (q 7)) h)
  have h3 := h2'.tr (fun h => (⟨mOk_ctl h, t640_ctl _ _ _⟩ : mKp2 _ (mCtl _ q id)))
  have h4 := h3.tr (fun h => kp_D h)
  have h5 := h4.tr (fun h => kp_E h)
  have h6 := h5.tr (fun h => (⟨mOk_mea h, t640_mea _⟩ : mKp2 _ (mMea _)))
  have h7 := h6.tr (fun h => (⟨mOk_wat h, t640_wat _⟩ : mKp2 _ (mWat _)))
  exact mOk_tkF q _ h7.1 (h7.2.trans hN) h2
theorem tb_out9 {k : Int32} (h0 : ¬ k = 0) (h1 : ¬ k = 1) (h2 : ¬ k = 2) (h3 : ¬ k = 3) (h4 : ¬ k = 4) (h5 : ¬ k = 5) (h6 : ¬ k = 6) (h7 : ¬ k = 7) (h8 : ¬ k = 8) : ¬ (0 ≤ k.toInt ∧ k.toInt ≤ 8) := by
  rintro ⟨a, b⟩
  have q0 := lv_neT h0 (a := 0) rfl
  have q1 := lv_neT h1 (a := 1) rfl
  have q2 := lv_neT h2 (a := 2) rfl
  have q3 := lv_neT h3 (a := 3) rfl
  have q4 := lv_neT h4 (a := 4) rfl
  have q5 := lv_neT h5 (a := 5) rfl
  have q6 := lv_neT h6 (a := 6) rfl
  have q7 := lv_neT h7 (a := 7) rfl
  have q8 := lv_neT h8 (a := 8) rfl
  omega
theorem keep_ix (c u i : Nat) : nI c * nI u + nI i = nI (c * u + i) := by rw [pk_mul, nI_add]
theorem mPlaceN_lt {n : mRow} {wn : Nat} (h4 : wn ≤ 4) (hW : n 660 = lN wn) (sg : Int32) : ∀ k j : Nat, j + k ≤ 5 → 0 ≤ mPlaceN n sg k j → ∃ p : Nat, p < wn ∧ mPlaceN n sg k j = nI p
  | 0, _, _, h => absurd (show (0 : Int32) ≤ -2000000004 from h) (by decide)
  | k + 1, j, hj, h => by
    rw [mPlaceN_s] at h ⊢
    by_cases c1 : n 660 ≤ (nI j).toInt64
    · rw [if_pos c1] at h; exact absurd h (by decide)
    · rw [if_neg c1] at h ⊢
      by_cases c2 : n (661 + 5 * j) = sg.toInt64
      · rw [if_pos c2] at h ⊢
        exact ⟨j, ltW (by rw [← hW]; exact c1) (by omega) (by omega), rfl⟩
      · rw [if_neg c2] at h ⊢
        exact mPlaceN_lt h4 hW sg k (j + 1) (by omega) h
theorem mPlace_lt {n : mRow} {wn : Nat} (h4 : wn ≤ 4) (hW : n 660 = lN wn) {sg : Int32} (h : 0 ≤ mPlace n sg) : ∃ p : Nat, p < wn ∧ mPlace n sg = nI p := mPlaceN_lt h4 hW sg 5 0 (by omega) h
theorem mPlace_in {n : mRow} {sg : Int32} (hok : mOk n) (h : 0 ≤ mPlace n sg) : vp_in (mPlace n sg) 4 := by
  obtain ⟨-, wn, h4, hW, -⟩ := hok
  obtain ⟨p, hp, e⟩ := mPlace_lt h4 hW h
  rw [e]; exact vp_in_nI (by omega) (by decide)
theorem wpl_ix {x : Int32} (h : vp_in x 4) : (661 : Int32) + 5 * x = nI (661 + 5 * x.toNatClampNeg) := by
  obtain ⟨j, hj, rfl⟩ := vp_in_of h (by decide)
  rw [nI_clamp (by omega)]; exact wat_ix j
theorem wpl_ix1 {x : Int32} (h : vp_in x 4) : ((661 : Int32) + 5 * x) + 1 = nI (661 + 5 * x.toNatClampNeg + 1) := by rw [wpl_ix h]; exact nI_1 _
theorem wpl_ix2 {x y : Int32} (h : vp_in x 4) (hy : vp_in y 3) : (((661 : Int32) + 5 * x) + 2) + y = nI (661 + 5 * x.toNatClampNeg + 2 + y.toNatClampNeg) := by
  obtain ⟨j, hj, rfl⟩ := vp_in_of hy (by decide)
  rw [wpl_ix h, nI_clamp (by omega), show (2 : Int32) = nI 2 from rfl, nI_add, nI_add]
theorem wcnt_in {n : mRow} (hok : mOk n) (h : ¬ n 660 = 4) : vp_in (n 660).toInt32 4 := by
  obtain ⟨-, wn, h4, hW, -⟩ := hok
  rw [hW, lN_i]
  rcases Nat.lt_or_ge wn 4 with q | q
  · exact vp_in_nI q (by decide)
  · exact absurd (by rw [hW, show wn = 4 by omega]; rfl) h
theorem wat_in {n : mRow} (hok : mOk n) {i : Int32} (h0 : 0 ≤ i) (h : ¬ n 660 ≤ i.toInt64) : vp_in i 4 := by
  obtain ⟨-, wn, h4, hW, -⟩ := hok
  obtain ⟨j, hj, rfl⟩ := nI_of (Int32.not_lt.mpr h0)
  have := ltW (by rw [← hW]; exact h) hj (by omega)
  exact vp_in_nI (by omega) (by decide)
theorem in_of {x : Int32} (hi : Nat) (hhi : hi + 1 < 2 ^ 31) (h : ¬ mIn x.toInt64 0 (nI hi).toInt64 = 0) : vp_in x (hi + 1) := by
  obtain ⟨e, -, h2⟩ := rng_of 0 hi (by decide) (by omega) (x := x) h
  rw [e]; exact vp_in_nI (by omega) (by omega)
theorem unw_lt {V i : Nat} (h : ¬ 661 + 5 * lN V ≤ (nI i).toInt64) (hV : V < 2 ^ 20) (hi : i < 2 ^ 31) : i < 661 + 5 * V := by
  rw [show (661 : Int64) = lN 661 from rfl, show (5 : Int64) = lN 5 from rfl, lN_mul, lN_add, nI_l hi, lN_le (by omega) hi] at h
  omega
theorem len_in {x : Int32} (h : lenOk x) (h2 : ¬ x = 80) : vp_in x 80 := by
  obtain ⟨L, hL, rfl⟩ := h
  rcases Nat.lt_or_ge L 80 with q | q
  · exact vp_in_nI q (by decide)
  · exact absurd (by rw [show L = 80 by omega]; rfl) h2
theorem mCpL_at (f g : mRow) : ∀ k j : Nat, mCpL f g k j = if j < k then g j else f j
  | 0, _ => rfl
  | k + 1, j => by
    show vp_updL (mCpL f g k) k (g k) j = _
    rcases Nat.lt_trichotomy j k with q | q | q
    · rw [pk_uLn (by omega), mCpL_at f g k j, if_pos q, if_pos (by omega)]
    · subst q; rw [pk_uLs, if_pos (by omega)]
    · rw [pk_uLn (by omega), mCpL_at f g k j, if_neg (by omega), if_neg (by omega)]
theorem mCpI_at (f g : Nat → Int32) : ∀ k j : Nat, mCpI f g k j = if j < k then g j else f j
  | 0, _ => rfl
  | k + 1, j => by
    show upd (mCpI f g k) k (g k) j = _
    rcases Nat.lt_trichotomy j k with q | q | q
    · rw [pk_un (by omega), mCpI_at f g k j, if_pos q, if_pos (by omega)]
    · subst q; rw [pk_us, if_pos (by omega)]
    · rw [pk_un (by omega), mCpI_at f g k j, if_neg (by omega), if_neg (by omega)]
theorem mZeroN_at (f : mRow) : ∀ k j : Nat, mZeroN f k j = if j < k then 0 else f j
  | 0, _ => rfl
  | k + 1, j => by
    show vp_updL (mZeroN f k) k 0 j = _
    rcases Nat.lt_trichotomy j k with q | q | q
    · rw [pk_uLn (by omega), mZeroN_at f k j, if_pos q, if_pos (by omega)]
    · subst q; rw [pk_uLs, if_pos (by omega)]
    · rw [pk_uLn (by omega), mZeroN_at f k j, if_neg (by omega), if_neg (by omega)]
theorem mOk_ext {n m : mRow} (h : ∀ j : Nat, 640 ≤ j → j < 681 → m j = n j) (hn : mOk n) : mOk m := by
  obtain ⟨h1, wn, h2, h3, h4⟩ := hn
  refine ⟨by rw [h 640 (by decide) (by decide)]; exact h1, wn, h2, by rw [h 660 (by decide) (by decide)]; exact h3, fun j hj => ?_⟩
  rw [h (661 + 5 * j) (by omega) (by omega)]; exact h4 j hj
theorem cpcp (f A n : mRow) {j : Nat} (hj : j < 681) : mCpL f (mCpL A n 681) 681 j = n j := by
  rw [mCpL_at, if_pos hj, mCpL_at, if_pos hj]
theorem mOk_cp {f A n : mRow} (h : mOk n) : mOk (mCpL f (mCpL A n 681) 681) := mOk_ext (fun j _ hj => cpcp f A n hj) h
theorem mOk_clr (n : mRow) (sp : Int64) : mOk (mClr n sp) ∧ mClr n sp 640 = lN 0 := by
  have e : ∀ j : Nat, j < 681 → ¬ j = 641 → mClr n sp j = 0 := by
    intro j hj h
    unfold mClr
    rw [pk_uLn h, mZeroN_at, if_pos hj]
  refine ⟨⟨by rw [e 640 (by decide) (by decide)]; decide, 0, by decide, by rw [e 660 (by decide) (by decide)]; rfl, fun j hj => ?_⟩, by rw [e 640 (by decide) (by decide)]; rfl⟩
  rw [e (661 + 5 * j) (by omega) (by omega)]
  exact vp_in_nI (n := 0) (by decide) (by decide)
def kOk (x : Int32) : Prop := ∃ K : Nat, K ≤ 2 ∧ x = nI K
theorem l_sub_toInt {x y : Int64} (h1 : -(2 : Int) ^ 62 ≤ x.toInt) (h2 : x.toInt < 2 ^ 62) (h3 : -(2 : Int) ^ 62 ≤ y.toInt) (h4 : y.toInt < 2 ^ 62) : (x - y).toInt = x.toInt - y.toInt := by
  rw [Int64.toInt_sub]
  exact Int.bmod_eq_of_le (by omega) (by omega)
theorem cor_lt {N i : Nat} (hN : N < 2 ^ 31) (hi : i < 2 ^ 20) (h : ¬ (lN N - 1) - lN i < lN N - 32) : i < 32 := by
  have a := pk_lT (n := N) (by omega)
  have b := pk_lT (n := i) (by omega)
  have e1 : (lN N - 1).toInt = (N : Int) - 1 := by
    rw [l_sub_toInt (by omega) (by omega) (by decide) (by decide), a]; rfl
  have e2 : (lN N - 32).toInt = (N : Int) - 32 := by
    rw [l_sub_toInt (by omega) (by omega) (by decide) (by decide), a]; rfl
  have e3 : ((lN N - 1) - lN i).toInt = (N : Int) - 1 - i := by
    rw [l_sub_toInt (by omega) (by omega) (by omega) (by omega), e1, b]
  rw [Int64.lt_iff_toInt_lt, e2, e3] at h
  omega
theorem lN_subsub (t : Int64) (i : Nat) : (t - lN i) - 1 = t - lN (i + 1) := by
  rw [← lN_1, Int64.sub_sub]
