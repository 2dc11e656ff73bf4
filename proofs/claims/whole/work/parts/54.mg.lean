/-! the reference's public methods: r.. answers, h.. makes -/
def mZeroN (n : mRow) : Nat → mRow
  | 0 => n
  | k + 1 => vp_updL (mZeroN n k) k 0
def mCpL (f g : mRow) : Nat → mRow
  | 0 => f
  | k + 1 => vp_updL (mCpL f g k) k (g k)
def mCpI (f g : Nat → Int32) : Nat → Nat → Int32
  | 0 => f
  | k + 1 => upd (mCpI f g k) k (g k)
def mCpTo (f g : mRow) (o : Nat) : Nat → mRow
  | 0 => f
  | k + 1 => vp_updL (mCpTo f g o k) (o + k) (g k)
def mCpFrom (f g : mRow) (o : Nat) : Nat → mRow
  | 0 => f
  | k + 1 => vp_updL (mCpFrom f g o k) k (g (o + k))
def mSh (B : Nat → Int32) : Nat → Nat → Int32
  | 0 => B
  | k + 1 => upd (mSh B k) k ((mSh B k) (15 + k))
def mPutRow (B q : Nat → Int32) (o : Nat) : Nat → Nat → Int32
  | 0 => B
  | k + 1 => upd (mPutRow B q o k) (o + k) (q k)
def mGetRow (q B : Nat → Int32) (o : Nat) : Nat → Nat → Int32
  | 0 => q
  | k + 1 => upd (mGetRow q B o k) k (B (o + k))
def mKpB (B : Nat → Int32) (um : Int32) : Nat → Int32 := if um = 6 then mSh B 75 else B
def mKpU (um : Int32) : Int32 := if um = 6 then um - 1 else um
def mKeepB (B q : Nat → Int32) (um : Int32) : Nat → Int32 := mPutRow (mKpB B um) q (15 * (mKpU um).toNatClampNeg) 15
def mKeeps (μ : Mst) : Mst := mPut_undoMany (mPut_before μ (mKeepB (mBef μ) (mPar μ) (mUm μ))) (mKpU (mUm μ) + 1)
def uOk (u : Int32) : Prop := ∃ U : Nat, U ≤ 6 ∧ u = nI U
def jSetParameter (μ : Mst) (k v : Int32) : Int32 := if fPar k = 0 then -2000000001 else if mIn v.toInt64 (mLow μ k.toNatClampNeg).toInt64 (mHigh μ k.toNatClampNeg).toInt64 = 0 then -2000000001 else mPar μ k.toNatClampNeg
def hSetParameter (μ : Mst) (k v : Int32) : Mst := if fPar k = 0 then μ else if mIn v.toInt64 (mLow μ k.toNatClampNeg).toInt64 (mHigh μ k.toNatClampNeg).toInt64 = 0 then μ else mPut_par (mKeeps μ) (upd (mPar μ) k.toNatClampNeg v)
def jParameter (μ : Mst) (k : Int32) : Int32 := if fPar k = 0 then -2000000001 else mPar μ k.toNatClampNeg
def jUndo (μ : Mst) : Int32 := if mUm μ = 0 then -2000000002 else mUm μ - 1
def hUndo (μ : Mst) : Mst := if mUm μ = 0 then μ else mPut_par (mPut_undoMany μ (mUm μ - 1)) (mGetRow (mPar μ) (mBef μ) (15 * (mUm μ - 1).toNatClampNeg) 15)
def mSetRow (n : mRow) (v : Int32) : mRow := vp_updL (vp_updL (vp_updL (vp_updL (vp_updL (vp_updL n 641 v.toInt64) 655 (n 641).toInt32.toInt64) 656 0) 657 0) 658 0) 659 0
def jSetSetpoint (μ : Mst) (v : Int32) : Int32 := if mIn v.toInt64 (-100000) 100000 = 0 then -2000000001 else (mNow μ 641).toInt32
def hSetSetpoint (μ : Mst) (v : Int32) : Mst := if mIn v.toInt64 (-100000) 100000 = 0 then μ else mPut_now μ (mSetRow (mNow μ) v)
def jSetLoad (μ : Mst) (v : Int32) : Int32 := if mIn v.toInt64 (-100000) 100000 = 0 then -2000000001 else (mNow μ 642).toInt32
def hSetLoad (μ : Mst) (v : Int32) : Mst := if mIn v.toInt64 (-100000) 100000 = 0 then μ else mPut_now μ (vp_updL (mNow μ) 642 v.toInt64)
def jSetSeed (μ : Mst) (v : Int32) : Int32 := if mIn v.toInt64 0 9999 = 0 then -2000000001 else (mNow μ 643).toInt32
def hSetSeed (μ : Mst) (v : Int32) : Mst := if mIn v.toInt64 0 9999 = 0 then μ else mPut_now μ (vp_updL (mNow μ) 643 v.toInt64)
def lenOk (x : Int32) : Prop := ∃ L : Nat, L ≤ 80 ∧ x = nI L
def jType (μ : Mst) (k : Int32) : Int32 := if mIn k.toInt64 32 126 = 0 then -2000000001 else if mLen μ = 80 then -2000000003 else mLen μ + 1
def hType (μ : Mst) (k : Int32) : Mst := if mIn k.toInt64 32 126 = 0 then μ else if mLen μ = 80 then μ else mPut_length (mPut_text μ (upd (mText μ) (mLen μ).toNatClampNeg k)) (mLen μ + 1)
def hClearText (μ : Mst) : Mst := mPut_length μ 0
def mAdv (q : Nat → Int32) (id : Int32) : Nat → mRow → mRow
  | 0, n => n
  | k + 1, n => mAdv q id k (mTick n q id)
theorem mAdv_s (q : Nat → Int32) (id : Int32) (k : Nat) (n : mRow) : mAdv q id (k + 1) n = mAdv q id k (mTick n q id) := rfl
def jRun (μ : Mst) (t : Int32) : Int32 := if mIn t.toInt64 1 500 = 0 then -2000000001 else if mNow μ 640 + t.toInt64 ≤ 100000 then ((mAdv (mPar μ) (mIdeal μ) t.toNatClampNeg (mNow μ)) 640).toInt32 else -2000000003
def hRun (μ : Mst) (t : Int32) : Mst := if mIn t.toInt64 1 500 = 0 then μ else if mNow μ 640 + t.toInt64 ≤ 100000 then mPut_now μ (mAdv (mPar μ) (mIdeal μ) t.toNatClampNeg (mNow μ)) else μ
def mPres (n : mRow) (s : Int32) : Int32 := if s = 0 then (n 641).toInt32 else if s = 1 then (n 652).toInt32 else if s = 2 then (n 651).toInt32 else if s = 3 then (n 645).toInt32 else if s = 4 then (n 653).toInt32 else if s = 5 then (n 646).toInt32 else if s = 6 then (n 654).toInt32 else if s = 7 then (n 647).toInt32 else if s = 8 then (n 644).toInt32 else (n 648).toInt32
def jValue (μ : Mst) (s : Int32) : Int32 := if fSig s = 0 then -2000000001 else mPres (mNow μ) s
def jRecorded (μ : Mst) (s ago : Int32) : Int32 := if fSig s = 0 then -2000000001 else if mIn ago.toInt64 0 63 = 0 then -2000000001 else if mNow μ 640 ≤ ago.toInt64 then -2000000004 else (mAt (mNow μ) s ((mNow μ 640 - 1) - ago.toInt64)).toInt32
def hRestart (μ : Mst) : Mst := mPut_keptMany (mPut_now μ (mZeroN (mNow μ) 681)) 0
def mPlaceN (n : mRow) (sg : Int32) : Nat → Nat → Int32
  | 0, _ => -2000000004
  | k + 1, j => if n 660 ≤ (nI j).toInt64 then -2000000004 else if n (661 + 5 * j) = sg.toInt64 then nI j else mPlaceN n sg k (j + 1)
theorem mPlaceN_s (n : mRow) (sg : Int32) (k j : Nat) : mPlaceN n sg (k + 1) j = if n 660 ≤ (nI j).toInt64 then -2000000004 else if n (661 + 5 * j) = sg.toInt64 then nI j else mPlaceN n sg k (j + 1) := rfl
def mPlace (n : mRow) (sg : Int32) : Int32 := mPlaceN n sg 5 0
def mWatchAt (n : mRow) (pl sg : Int32) : mRow := vp_updL (vp_updL n (661 + 5 * pl.toNatClampNeg) sg.toInt64) (661 + 5 * pl.toNatClampNeg + 1) 0
def mWatchRow (n : mRow) (pl sg : Int32) : mRow := if 0 ≤ pl then mWatchAt n pl sg else if n 660 = 4 then n else mWatchAt (vp_updL n 660 (n 660 + 1)) (n 660).toInt32 sg
def jWatch1 (n : mRow) (pl sg : Int32) : Int32 := if 0 ≤ pl then ((mWatchAt n pl sg) 660).toInt32 else if n 660 = 4 then -2000000003 else ((mWatchAt (vp_updL n 660 (n 660 + 1)) (n 660).toInt32 sg) 660).toInt32
def jWatch (μ : Mst) (s : Int32) : Int32 := if fSig s = 0 then -2000000001 else jWatch1 (mNow μ) (mPlace (mNow μ) s) s
def hWatch (μ : Mst) (s : Int32) : Mst := if fSig s = 0 then μ else mPut_now μ (mWatchRow (mNow μ) (mPlace (mNow μ) s) s)
def mUnwN : Nat → Nat → mRow → mRow
  | 0, _, n => n
  | k + 1, i, n => if 661 + 5 * n 660 ≤ (nI i).toInt64 then n else mUnwN k (i + 1) (vp_updL n i (n (i + 5)))
theorem mUnwN_s (k i : Nat) (n : mRow) : mUnwN (k + 1) i n = if 661 + 5 * n 660 ≤ (nI i).toInt64 then n else mUnwN k (i + 1) (vp_updL n i (n (i + 5))) := rfl
def mUnwRow (n : mRow) (pl : Int32) : mRow := mUnwN 21 (661 + 5 * pl.toNatClampNeg) (vp_updL n 660 (n 660 - 1))
def jUnwatch (μ : Mst) (s : Int32) : Int32 := if fSig s = 0 then -2000000001 else if 0 ≤ mPlace (mNow μ) s then ((mUnwRow (mNow μ) (mPlace (mNow μ) s)) 660).toInt32 else -2000000004
def hUnwatch (μ : Mst) (s : Int32) : Mst := if fSig s = 0 then μ else if 0 ≤ mPlace (mNow μ) s then mPut_now μ (mUnwRow (mNow μ) (mPlace (mNow μ) s)) else μ
def jWatchedAt (μ : Mst) (i : Int32) : Int32 := if 0 ≤ i then (if mNow μ 660 ≤ i.toInt64 then -2000000004 else (mNow μ (661 + 5 * i.toNatClampNeg)).toInt32) else -2000000001
def jExtreme1 (n : mRow) (pl what : Int32) : Int32 := if 0 ≤ pl then (if n (661 + 5 * pl.toNatClampNeg + 1) = 0 then -2000000004 else (n (661 + 5 * pl.toNatClampNeg + 2 + what.toNatClampNeg)).toInt32) else -2000000002
def jExtreme (μ : Mst) (s what : Int32) : Int32 := if fSig s = 0 then -2000000001 else if mIn what.toInt64 0 2 = 0 then -2000000001 else jExtreme1 (mNow μ) (mPlace (mNow μ) s) what
def jMeasure (μ : Mst) (k : Int32) : Int64 := if mIn k.toInt64 0 3 = 0 then -2000000001 else mNow μ (656 + k.toNatClampNeg)
def mSetN (n : mRow) (tol : Int32) : Nat → Nat → Int32
  | 0, i => nI i
  | k + 1, i => if 64 ≤ nI i then nI i else if n 659 ≤ (nI i).toInt64 then nI i else if mSize (mAt n 0 ((n 640 - 1) - (nI i).toInt64) - mAt n 1 ((n 640 - 1) - (nI i).toInt64)) ≤ tol.toInt64 then mSetN n tol k (i + 1) else nI i
theorem mSetN_s (n : mRow) (tol : Int32) (k i : Nat) : mSetN n tol (k + 1) i = if 64 ≤ nI i then nI i else if n 659 ≤ (nI i).toInt64 then nI i else if mSize (mAt n 0 ((n 640 - 1) - (nI i).toInt64) - mAt n 1 ((n 640 - 1) - (nI i).toInt64)) ≤ tol.toInt64 then mSetN n tol k (i + 1) else nI i := rfl
def jSettled (μ : Mst) (tol : Int32) : Int32 := if mIn tol.toInt64 0 100000 = 0 then -2000000001 else mSetN (mNow μ) tol 65 0
def jStore (μ : Mst) : Int32 := if mKm μ = 2 then -2000000003 else mKm μ + 1
def hStore (μ : Mst) : Mst := if mKm μ = 2 then μ else mPut_keptMany (mPut_kept μ (mCpTo (mKept μ) (mNow μ) (681 * (mKm μ).toNatClampNeg) 681)) (mKm μ + 1)
def jRecall (μ : Mst) : Int32 := if mKm μ = 0 then -2000000002 else mKm μ - 1
def hRecall (μ : Mst) : Mst := if mKm μ = 0 then μ else mPut_now (mPut_keptMany μ (mKm μ - 1)) (mCpFrom (mNow μ) (mKept μ) (681 * (mKm μ - 1).toNatClampNeg) 681)
def mCorT (n : mRow) (lag : Int32) (t : Int64) : Int64 := (mAt n 2 ((t - 1) - lag.toInt64) - mAt n 2 ((t - 2) - lag.toInt64)) * (mAt n 1 t - mAt n 1 (t - 1))
def mCorN (n : mRow) (lag : Int32) : Nat → Int64 → Int64 → Int64
  | 0, _, sum => sum
  | k + 1, t, sum => if t < 0 then sum else if t < n 640 - 32 then sum else mCorN n lag k (t - 1) (sum + mCorT n lag t)
theorem mCorN_s (n : mRow) (lag : Int32) (k : Nat) (t sum : Int64) : mCorN n lag (k + 1) t sum = if t < 0 then sum else if t < n 640 - 32 then sum else mCorN n lag k (t - 1) (sum + mCorT n lag t) := rfl
def mCorS (n : mRow) (lag : Int32) : Int64 := mCorN n lag 33 (n 640 - 1) 0
def mCor (n : mRow) (q : Nat → Int32) (lag : Int32) : Int64 := if 0 ≤ q 5 then mCorS n lag else -(mCorS n lag)
def jCorrelation (μ : Mst) (lag : Int32) : Int64 := if mIn lag.toInt64 0 30 = 0 then -2000000001 else mCor (mNow μ) (mPar μ) lag
def mLagN (n : mRow) (q : Nat → Int32) : Nat → Nat → Int32 → Int64 → Int32
  | 0, _, best, _ => best
  | k + 1, j, best, most => if 30 < nI j then best else mLagN n q k (j + 1) (if mCor n q (nI j) ≤ most then best else nI j) (if mCor n q (nI j) ≤ most then most else mCor n q (nI j))
theorem mLagN_s (n : mRow) (q : Nat → Int32) (k j : Nat) (best : Int32) (most : Int64) : mLagN n q (k + 1) j best most = if 30 < nI j then best else mLagN n q k (j + 1) (if mCor n q (nI j) ≤ most then best else nI j) (if mCor n q (nI j) ≤ most then most else mCor n q (nI j)) := rfl
def mLag (n : mRow) (q : Nat → Int32) : Int32 := mLagN n q 32 0 (-2000000004) 0
def mMayN (n : mRow) (q : Nat → Int32) (best : Int32) : Nat → Nat → Int32 → Int32
  | 0, _, may => may
  | k + 1, j, may => if 30 < nI j then may else if may = 0 then may else mMayN n q best k (j + 1) (if nI j = best then 1 else if mCor n q best < 2 * mCor n q (nI j) then 0 else 1)
theorem mMayN_s (n : mRow) (q : Nat → Int32) (best : Int32) (k j : Nat) (may : Int32) : mMayN n q best (k + 1) j may = if 30 < nI j then may else if may = 0 then may else mMayN n q best k (j + 1) (if nI j = best then 1 else if mCor n q best < 2 * mCor n q (nI j) then 0 else 1) := rfl
def mMay (n : mRow) (q : Nat → Int32) (best : Int32) : Int32 := mMayN n q best 32 0 (if best < 0 then 0 else 1)
def jTune (μ : Mst) : Int32 := if mMay (mNow μ) (mPar μ) (mLag (mNow μ) (mPar μ)) = 0 then -2000000002 else 10 * mLag (mNow μ) (mPar μ)
def hTune (μ : Mst) : Mst := if mMay (mNow μ) (mPar μ) (mLag (mNow μ) (mPar μ)) = 0 then μ else mPut_par (mKeeps μ) (upd (mPar μ) 7 (10 * mLag (mNow μ) (mPar μ)))
/-- aside and back -/
def mAsideL (μ : Mst) : mRow := mCpL (mAside μ) (mNow μ) 681
def mAsideP (μ : Mst) : Nat → Int32 := mCpI (mParA μ) (mPar μ) 15
def hAside (μ : Mst) (n : mRow) (q : Nat → Int32) : Mst := mPut_par (mPut_now (mPut_parAside (mPut_aside μ (mAsideL μ)) (mAsideP μ)) (mCpL n (mAsideL μ) 681)) (mCpI q (mAsideP μ) 15)
def jAhead (μ : Mst) (t s : Int32) : Int32 := if mIn t.toInt64 1 500 = 0 then -2000000001 else if fSig s = 0 then -2000000001 else mPres (mAdv (mPar μ) (mIdeal μ) t.toNatClampNeg (mNow μ)) s
def hAhead (μ : Mst) (t s : Int32) : Mst := if mIn t.toInt64 1 500 = 0 then μ else if fSig s = 0 then μ else hAside μ (mAdv (mPar μ) (mIdeal μ) t.toNatClampNeg (mNow μ)) (mPar μ)
/-- a gain tried: the parameters, the row behind T ticks -/
def mGainQ (q A : Nat → Int32) (g : Int32) : Nat → Int32 := upd (mCpI q A 15) 0 g
def mGainN (n A : mRow) (q1 : Nat → Int32) (id : Int32) (T : Nat) : mRow := mAdv q1 id T (vp_updL (mCpL n A 681) 656 0)
def mBGN (A : mRow) (AQ : Nat → Int32) (id : Int32) (T : Nat) : Nat → Nat → Int32 → Int64 → mRow → (Nat → Int32) → Int32 × mRow × (Nat → Int32)
  | 0, _, best, _, n, q => (best, n, q)
  | k + 1, j, best, least, n, q => if 5000 < nI (250 * j) then (best, n, q) else mBGN A AQ id T k (j + 1) (if nI (250 * j) = 0 then nI (250 * j) else if least ≤ mGainN n A (mGainQ q AQ (nI (250 * j))) id T 656 then best else nI (250 * j)) (if nI (250 * j) = 0 then mGainN n A (mGainQ q AQ (nI (250 * j))) id T 656 else if least ≤ mGainN n A (mGainQ q AQ (nI (250 * j))) id T 656 then least else mGainN n A (mGainQ q AQ (nI (250 * j))) id T 656) (mGainN n A (mGainQ q AQ (nI (250 * j))) id T) (mGainQ q AQ (nI (250 * j)))
theorem mBGN_s (A : mRow) (AQ : Nat → Int32) (id : Int32) (T k j : Nat) (best : Int32) (least : Int64) (n : mRow) (q : Nat → Int32) : mBGN A AQ id T (k + 1) j best least n q = if 5000 < nI (250 * j) then (best, n, q) else mBGN A AQ id T k (j + 1) (if nI (250 * j) = 0 then nI (250 * j) else if least ≤ mGainN n A (mGainQ q AQ (nI (250 * j))) id T 656 then best else nI (250 * j)) (if nI (250 * j) = 0 then mGainN n A (mGainQ q AQ (nI (250 * j))) id T 656 else if least ≤ mGainN n A (mGainQ q AQ (nI (250 * j))) id T 656 then least else mGainN n A (mGainQ q AQ (nI (250 * j))) id T 656) (mGainN n A (mGainQ q AQ (nI (250 * j))) id T) (mGainQ q AQ (nI (250 * j))) := rfl
def mBG (μ : Mst) (T : Nat) : Int32 × mRow × (Nat → Int32) := mBGN (mAsideL μ) (mAsideP μ) (mIdeal μ) T 22 0 0 0 (mNow μ) (mPar μ)
def jBest (μ : Mst) (t : Int32) : Int32 := if mIn t.toInt64 1 100 = 0 then -2000000001 else (mBG μ t.toNatClampNeg).1
def hBest (μ : Mst) (t : Int32) : Mst := if mIn t.toInt64 1 100 = 0 then μ else hAside μ (mBG μ t.toNatClampNeg).2.1 (mBG μ t.toNatClampNeg).2.2
/-- the path of the loop with dead time; the one without it beside -/
def mPathN (q : Nat → Int32) (id : Int32) : Nat → Nat → mRow → mRow → mRow × mRow
  | 0, _, P, n => (P, n)
  | k + 1, i, P, n => mPathN q id k (i + 1) (vp_updL P i (n 644)) (mTick n q id)
theorem mPathN_s (q : Nat → Int32) (id : Int32) (k i : Nat) (P n : mRow) : mPathN q id (k + 1) i P n = mPathN q id k (i + 1) (vp_updL P i (n 644)) (mTick n q id) := rfl
def mFarN (q : Nat → Int32) (P : mRow) (J : Nat) : Nat → Nat → Int64 → mRow → Int64 × mRow
  | 0, _, most, n => (most, n)
  | k + 1, i, most, n => mFarN q P J k (i + 1) (if mSize (P (i + J) - n 644) ≤ most then most else mSize (P (i + J) - n 644)) (mTick n q 1)
theorem mFarN_s (q : Nat → Int32) (P : mRow) (J k i : Nat) (most : Int64) (n : mRow) : mFarN q P J (k + 1) i most n = mFarN q P J k (i + 1) (if mSize (P (i + J) - n 644) ≤ most then most else mSize (P (i + J) - n 644)) (mTick n q 1) := rfl
def mClr (n : mRow) (sp : Int64) : mRow := vp_updL (mZeroN n 681) 641 sp
def mIdQ (μ : Mst) : Nat → Int32 := upd (mPar μ) 14 0
def mIdJ (μ : Mst) : Nat := (mPar μ 4 / 10).toNatClampNeg
def mIdP (μ : Mst) (T : Nat) : mRow × mRow := mPathN (mIdQ μ) (mIdeal μ) (T + mIdJ μ + 1) 0 (mPath μ) (mClr (mNow μ) (mNow μ 641))
def mIdF (μ : Mst) (T : Nat) : Int64 × mRow := mFarN (mIdQ μ) (mIdP μ T).1 (mIdJ μ) (T + 1) 0 0 (mClr (mIdP μ T).2 (mNow μ 641))
def jIdeal (μ : Mst) (t : Int32) : Int32 := if mIn t.toInt64 1 200 = 0 then -2000000001 else (mIdF μ t.toNatClampNeg).1.toInt32
def hIdeal (μ : Mst) (t : Int32) : Mst := if mIn t.toInt64 1 200 = 0 then μ else hAside (mPut_isIdeal (mPut_path μ (mIdP μ t.toNatClampNeg).1) 0) (mIdF μ t.toNatClampNeg).2 (mIdQ μ)
