/-! loops' facts that ticks keep -/
def lB (σ : Lop) : Prop := sUp (lSec σ) = 0 ∨ sUp (lSec σ) = 1
theorem fJudge_sec (σ : Lop) (b p : Int32) : lSec (fJudge σ b p) = lSec σ := by
  unfold fJudge fJudge2
  split <;> (try split) <;> simp only [lSec]
theorem fTick1_now (σ : Lop) (v : Sett) (m p : Int32) : lNow (fTick1 σ v m p) = lNow σ := by
  unfold fTick1; rw [fJudge_now]; simp only [lSetP, lNow]
theorem fTick1_sec (σ : Lop) (v : Sett) (m p : Int32) : lSec (fTick1 σ v m p) = lSec σ := by
  unfold fTick1; rw [fJudge_sec]; simp only [lSetP, lSec]
theorem fTick2_sec (σ : Lop) (v : Sett) (i : Int32) : lSec (fTick2 σ v i) = lSec σ := by simp only [fTick2, lSetP, lSec]
theorem fTick3_now (σ : Lop) : lNow (fTick3 σ) = lNow σ := by simp only [fTick3, lNow]
theorem fTick3_sec (σ : Lop) : lSec (fTick3 σ) = lSec σ := by simp only [fTick3, lSec]
theorem fTick4_now (σ : Lop) (u : Int32) : lNow (fTick4 σ u) = lNow σ := by simp only [fTick4, lNow]
theorem fTick4_up (σ : Lop) (u : Int32) : sUp (lSec (fTick4 σ u)) = sUp (lSec σ) := by simp only [fTick4, fSecSee, lSec, sUp]
theorem fMove_now (σ : Lop) (v : Sett) : lNow (fMove σ v) = lNow σ + 1 := by simp only [fMove, lNow]
theorem fMove_sec (σ : Lop) (v : Sett) : lSec (fMove σ v) = lSec σ := by simp only [fMove, lSec]
theorem fTick_now (σ : Lop) (v : Sett) (i : Int32) : lNow (fTick σ v i) = lNow σ + 1 := by
  unfold fTick; rw [fMove_now, fTick4_now, fTick3_now, fTick2_now, fTick1_now]
theorem fTick_up (σ : Lop) (v : Sett) (i : Int32) : sUp (lSec (fTick σ v i)) = sUp (lSec σ) := by
  unfold fTick; rw [fMove_sec, fTick4_up, fTick3_sec, fTick2_sec, fTick1_sec]
theorem fCopy_now (σ τ : Lop) : lNow (fLoopCopy σ τ) = lNow τ := by simp only [fLoopCopy, lNow]
theorem fCopy_sec (σ τ : Lop) : lSec (fLoopCopy σ τ) = lSec τ := by simp only [fLoopCopy, lSec]
theorem fSetR_now (σ : Lop) (v : Int32) : lNow (fSetR σ v) = lNow σ := by simp only [fSetR, lNow]
theorem fBegin_now (σ : Lop) : lNow (fBegin σ) = 0 := by simp only [fBegin, lNow]
theorem rngT {t : Int32} (h1 : ¬ t < 1) (h2 : t ≤ 500) : t = nI t.toNatClampNeg ∧ t.toNatClampNeg ≤ 500 ∧ 1 ≤ t.toNatClampNeg := by
  obtain ⟨j, hj, rfl⟩ := nI_of (show ¬ t < 0 from fun q => h1 (Int32.lt_of_lt_of_le q (by decide)))
  rw [nI_clamp hj]
  rw [show (500 : Int32) = nI 500 from rfl, nI_leI hj (by decide)] at h2
  rw [show (1 : Int32) = nI 1 from rfl, nI_ltI hj (by decide)] at h1
  exact ⟨rfl, h2, by omega⟩
theorem rngT' {t : Int32} (h1 : ¬ t < 1) (h2 : ¬ 500 < t) : t = nI t.toNatClampNeg ∧ t.toNatClampNeg ≤ 500 ∧ 1 ≤ t.toNatClampNeg := rngT h1 (Int32.not_lt.mp h2)
theorem rngT100 {t : Int32} (h1 : ¬ t < 1) (h2 : t ≤ 100) : t = nI t.toNatClampNeg ∧ t.toNatClampNeg ≤ 500 ∧ 1 ≤ t.toNatClampNeg := rngT h1 (Int32.le_trans h2 (by decide))
theorem rngT200 {t : Int32} (h1 : ¬ t < 1) (h2 : t ≤ 200) : t = nI t.toNatClampNeg ∧ t.toNatClampNeg ≤ 500 ∧ 1 ≤ t.toNatClampNeg := rngT h1 (Int32.le_trans h2 (by decide))
def rAhead (x : Xst) (t s : Int32) : Int32 := if t < 1 then -2000000001 else if 500 < t then -2000000001 else if fSig s = 0 then -2000000001 else lPres (fAdv (xSet x) t.toNatClampNeg (fLoopCopy (xTrial x) (xLoop x))) s.toNatClampNeg
def gAhead (x : Xst) (t s : Int32) : Xst := if t < 1 then x else if 500 < t then x else if fSig s = 0 then x else xPut_trial x (fAdv (xSet x) t.toNatClampNeg (fLoopCopy (xTrial x) (xLoop x)))
def fSetN (now : Int32) (recs : Nat → Int32) (tol most : Int32) : Nat → Nat → Int32
  | 0, _ => most
  | n + 1, i => if most ≤ nI i then most else if kAbs (fRec now recs 0 ((now - 1) - nI i) - fRec now recs 1 ((now - 1) - nI i)) ≤ tol then fSetN now recs tol most n (i + 1) else nI i
theorem fSetN_s (now : Int32) (recs : Nat → Int32) (tol most : Int32) (n i : Nat) : fSetN now recs tol most (n + 1) i = if most ≤ nI i then most else if kAbs (fRec now recs 0 ((now - 1) - nI i) - fRec now recs 1 ((now - 1) - nI i)) ≤ tol then fSetN now recs tol most n (i + 1) else nI i := rfl
def rSettled (x : Xst) (tol : Int32) : Int32 := if tol < 0 then -2000000001 else if tol ≤ 100000 then fSetN (lNow (xLoop x)) (lRecs (xLoop x)) tol (kMin 64 (sTicks (lSec (xLoop x)))) 65 0 else -2000000001
theorem lt64 {t : Int32} {i : Nat} (h : ¬ kMin 64 t ≤ nI i) (hi : i ≤ 64) : i < 64 := by
  rcases Nat.lt_or_ge i 64 with q | q
  · exact q
  · have e : i = 64 := by omega
    subst e
    exfalso; apply h
    unfold kMin
    split
    · rename_i h1; exact Int32.le_of_lt h1
    · exact Int32.le_refl _
def xStrN (x : Xst) (exc : Int32) : Nat → Nat → Int32 → Int64 → Int32
  | 0, _, st, _ => st
  | n + 1, j, st, gr => if 30 < nI j then st else if nI j = exc then xStrN x exc n (j + 1) st gr else if st = -1 then xStrN x exc n (j + 1) (nI j) (xCorr x (nI j)) else if xCorr x (nI j) ≤ gr then xStrN x exc n (j + 1) st gr else xStrN x exc n (j + 1) (nI j) (xCorr x (nI j))
theorem xStrN_s (x : Xst) (exc : Int32) (n j : Nat) (st : Int32) (gr : Int64) : xStrN x exc (n + 1) j st gr = if 30 < nI j then st else if nI j = exc then xStrN x exc n (j + 1) st gr else if st = -1 then xStrN x exc n (j + 1) (nI j) (xCorr x (nI j)) else if xCorr x (nI j) ≤ gr then xStrN x exc n (j + 1) st gr else xStrN x exc n (j + 1) (nI j) (xCorr x (nI j)) := rfl
def xStr (x : Xst) (exc : Int32) : Int32 := xStrN x exc 32 0 (-1) 0
def rEstimated (x : Xst) : Int32 := if xCorr x (xStr x (-1)) ≤ 0 then -2000000004 else xStr x (-1)
def tuneOk (x : Xst) : Bool := !decide (xCorr x (xStr x (-1)) ≤ 0) && decide (2 * xCorr x (xStr x (xStr x (-1))) ≤ xCorr x (xStr x (-1)))
def rTune (x : Xst) : Int32 := if xCorr x (xStr x (-1)) ≤ 0 then -2000000002 else if 2 * xCorr x (xStr x (xStr x (-1))) ≤ xCorr x (xStr x (-1)) then 10 * xStr x (-1) else -2000000002
def gTune (x : Xst) : Xst := if xCorr x (xStr x (-1)) ≤ 0 then x else if 2 * xCorr x (xStr x (xStr x (-1))) ≤ xCorr x (xStr x (-1)) then xPut_settings (xPut_changes x (cKeep (xChg x) (xSet x))) (fSet (xSet x) 7 (10 * xStr x (-1))) else x
/-- the sum of errors over n ticks -/
def fErrS (v : Sett) : Nat → Lop → Int64 → Int64
  | 0, _, sum => sum
  | n + 1, σ, sum => fErrS v n (fTick σ v 0) (sum + (kAbs (lPres (fTick σ v 0) 0 - lPres (fTick σ v 0) 1)).toInt64)
theorem fErrS_s (v : Sett) (n : Nat) (σ : Lop) (sum : Int64) : fErrS v (n + 1) σ sum = fErrS v n (fTick σ v 0) (sum + (kAbs (lPres (fTick σ v 0) 0 - lPres (fTick σ v 0) 1)).toInt64) := rfl
def xErrV (x : Xst) (gain : Int32) : Sett := fSet (va_cpy (xSet x) (xTs x) 0 0 15) 0 gain
def xErr (x : Xst) (gain : Int32) (T : Nat) : Int64 := fErrS (xErrV x gain) T (fLoopCopy (xTrial x) (xLoop x)) 0
def xErrX (x : Xst) (gain : Int32) (T : Nat) : Xst := xPut_trial (xPut_trialSettings x (xErrV x gain)) (fAdv (xErrV x gain) T (fLoopCopy (xTrial x) (xLoop x)))
def fBestN (T : Nat) : Nat → Nat → Int32 → Int64 → Xst → Int32 × Xst
  | 0, _, b, _, x => (b, x)
  | n + 1, j, b, le, x => if 5000 < nI (250 * j) then (b, x) else if le ≤ xErr x (nI (250 * j)) T then fBestN T n (j + 1) b le (xErrX x (nI (250 * j)) T) else fBestN T n (j + 1) (nI (250 * j)) (xErr x (nI (250 * j)) T) (xErrX x (nI (250 * j)) T)
theorem fBestN_s (T n j : Nat) (b : Int32) (le : Int64) (x : Xst) : fBestN T (n + 1) j b le x = if 5000 < nI (250 * j) then (b, x) else if le ≤ xErr x (nI (250 * j)) T then fBestN T n (j + 1) b le (xErrX x (nI (250 * j)) T) else fBestN T n (j + 1) (nI (250 * j)) (xErr x (nI (250 * j)) T) (xErrX x (nI (250 * j)) T) := rfl
def fBest (x : Xst) (T : Nat) : Int32 × Xst := fBestN T 21 1 0 (xErr x 0 T) (xErrX x 0 T)
def rBest (x : Xst) (t : Int32) : Int32 := if t < 1 then -2000000001 else if t ≤ 100 then (fBest x t.toNatClampNeg).1 else -2000000001
def gBest (x : Xst) (t : Int32) : Xst := if t < 1 then x else if t ≤ 100 then (fBest x t.toNatClampNeg).2 else x
def xPrepTs (x : Xst) : Sett := fSet (va_cpy (xSet x) (xTs x) 0 0 15) 14 0
def xPrepIs (x : Xst) : Sett := fSet (va_cpy (xPrepTs x) (xIs x) 0 0 15) 4 0
def xPrep (x : Xst) : Xst := (xSet x, xChg x, xTxt x, xLoop x, xFst x, xSnd x, xCnt x, xPrepTs x, xPrepIs x, fSetR (fBegin (xTrial x)) (lPres (xLoop x) 0), fSetR (fBegin (xIdeal x)) (lPres (xLoop x) 0))
def fDiff (σ τ : Lop) : Int32 := kAbs (lPres σ 8 - lPres τ 8)
def fIdN (v w : Sett) : Nat → Lop → Lop → Int32 → Int32 × Lop × Lop
  | 0, σ, τ, g => (g, σ, τ)
  | n + 1, σ, τ, g => fIdN v w n (fTick σ v 0) (fTick τ w 1) (kMax g (fDiff (fTick σ v 0) (fTick τ w 1)))
theorem fIdN_s (v w : Sett) (n : Nat) (σ τ : Lop) (g : Int32) : fIdN v w (n + 1) σ τ g = fIdN v w n (fTick σ v 0) (fTick τ w 1) (kMax g (fDiff (fTick σ v 0) (fTick τ w 1))) := rfl
/-- the first loop's end, the second one's -/
def xIdl1 (x : Xst) (J : Nat) : Lop := fAdv (xTs x) J (xTrial x)
def xIdl2 (x : Xst) (J T : Nat) : Int32 × Lop × Lop := fIdN (xTs x) (xIs x) T (xIdl1 x J) (xIdeal x) (fDiff (xIdl1 x J) (xIdeal x))
def rIdeal (x : Xst) (t : Int32) : Int32 := if t < 1 then -2000000001 else if t ≤ 200 then (xIdl2 (xPrep x) (fGet (xSet x) 4 / 10).toNatClampNeg t.toNatClampNeg).1 else -2000000001
def gIdeal (x : Xst) (t : Int32) : Xst := if t < 1 then x else if t ≤ 200 then xPut_ideal (xPut_trial (xPrep x) (xIdl2 (xPrep x) (fGet (xSet x) 4 / 10).toNatClampNeg t.toNatClampNeg).2.1) (xIdl2 (xPrep x) (fGet (xSet x) 4 / 10).toNatClampNeg t.toNatClampNeg).2.2 else x
theorem xErrX_loop (x : Xst) (g : Int32) (T : Nat) : xLoop (xErrX x g T) = xLoop x := by simp only [xErrX, xPut_trial, xPut_trialSettings, xLoop]
theorem xPrep_set (x : Xst) : xSet (xPrep x) = xSet x := by simp only [xPrep, xSet]
theorem xPrep_trial (x : Xst) : lNow (xTrial (xPrep x)) = nI 0 := by simp only [xPrep, xTrial, fSetR, fBegin, lNow]; rfl
theorem xPrep_ideal (x : Xst) : lNow (xIdeal (xPrep x)) = nI 0 := by simp only [xPrep, xIdeal, fSetR, fBegin, lNow]; rfl
