/-! what the public methods answer and make of the whole -/
abbrev kINV : Int32 := -2000000001
abbrev kNOT : Int32 := -2000000002
abbrev kCAP : Int32 := -2000000003
abbrev kNF : Int32 := -2000000004
def cOk (x : Chg) : Prop := cCnt x = 0 ∨ cCnt x = 1 ∨ cCnt x = 2 ∨ cCnt x = 3 ∨ cCnt x = 4 ∨ cCnt x = 5 ∨ cCnt x = 6
def rSetParameter (x : Xst) (k v : Int32) : Int32 := if fAllows k v = 0 then -2000000001 else fGet (xSet x) k
def gSetParameter (x : Xst) (k v : Int32) : Xst := if fAllows k v = 0 then x else xPut_settings (xPut_changes x (cKeep (xChg x) (xSet x))) (fSet (xSet x) k v)
def rParameter (x : Xst) (k : Int32) : Int32 := if fPar k = 0 then -2000000001 else fGet (xSet x) k
def rUndo (x : Xst) : Int32 := if cCnt (xChg x) = 0 then -2000000002 else cCnt (cBackC (xChg x))
def gUndo (x : Xst) : Xst := if cCnt (xChg x) = 0 then x else xPut_settings (xPut_changes x (cBackC (xChg x))) (cBackV (xChg x) (xSet x))
def rSetSetpoint (x : Xst) (v : Int32) : Int32 := if fLev v = 0 then -2000000001 else lPres (xLoop x) 0
def gSetSetpoint (x : Xst) (v : Int32) : Xst := if fLev v = 0 then x else xPut_loop x (fSetR (xLoop x) v)
def rSetLoad (x : Xst) (v : Int32) : Int32 := if fLev v = 0 then -2000000001 else lLoad (xLoop x)
def gSetLoad (x : Xst) (v : Int32) : Xst := if fLev v = 0 then x else xPut_loop x (lPut_load (xLoop x) v)
def rSetSeed (x : Xst) (v : Int32) : Int32 := if v < 0 then -2000000001 else if v ≤ 9999 then lSeed (xLoop x) else -2000000001
def gSetSeed (x : Xst) (v : Int32) : Xst := if v < 0 then x else if v ≤ 9999 then xPut_loop x (lPut_seed (xLoop x) v) else x
def tApp (t : Txt) (ch : Int32) : Txt := if tLen t < 80 then (upd (tChars t) (tLen t).toNatClampNeg ch, tTarg t, tWant t, tLen t + 1, tCnt t) else t
def tAppR (len : Int32) : Int32 := if len < 80 then 1 else 0
def rType (x : Xst) (k : Int32) : Int32 := if k < 32 then -2000000001 else if k ≤ 126 then (if tAppR (tLen (xTxt x)) = 0 then -2000000003 else tLen (tApp (xTxt x) k)) else -2000000001
def gType (x : Xst) (k : Int32) : Xst := if k < 32 then x else if k ≤ 126 then xPut_text x (tApp (xTxt x) k) else x
def gClearText (x : Xst) : Xst := xPut_text x (tPut_length (xTxt x) 0)
def fAdv (v : Sett) : Nat → Lop → Lop
  | 0, σ => σ
  | n + 1, σ => fAdv v n (fTick σ v 0)
theorem fAdv_s (v : Sett) (n : Nat) (σ : Lop) : fAdv v (n + 1) σ = fAdv v n (fTick σ v 0) := rfl
def rRun (x : Xst) (t : Int32) : Int32 := if t < 1 then -2000000001 else if t ≤ 500 then (if t ≤ 100000 - lNow (xLoop x) then lNow (fAdv (xSet x) t.toNatClampNeg (xLoop x)) else -2000000003) else -2000000001
def gRun (x : Xst) (t : Int32) : Xst := if t < 1 then x else if t ≤ 500 then (if t ≤ 100000 - lNow (xLoop x) then xPut_loop x (fAdv (xSet x) t.toNatClampNeg (xLoop x)) else x) else x
def rValue (x : Xst) (s : Int32) : Int32 := if fSig s = 0 then -2000000001 else lPres (xLoop x) s.toNatClampNeg
def rRecorded (x : Xst) (s ago : Int32) : Int32 := if fSig s = 0 then -2000000001 else if ago < 0 then -2000000001 else if ago < 64 then (if lNow (xLoop x) ≤ ago then -2000000004 else fRec (lNow (xLoop x)) (lRecs (xLoop x)) s ((lNow (xLoop x) - 1) - ago)) else -2000000001
def gRestart (x : Xst) : Xst := xPut_storedStates (xPut_loop x (fBegin (xLoop x))) 0
def rWatch (x : Xst) (s : Int32) : Int32 := if fSig s = 0 then -2000000001 else if fAddR (wCnt (lWat (xLoop x))) (fPlace (wCnt (lWat (xLoop x))) (wSig (lWat (xLoop x))) s) = 0 then -2000000003 else wCnt (fAdd (lWat (xLoop x)) s)
def gWatch (x : Xst) (s : Int32) : Xst := if fSig s = 0 then x else xPut_loop x (lPut_watches (xLoop x) (fAdd (lWat (xLoop x)) s))
def rUnwatch (x : Xst) (s : Int32) : Int32 := if fSig s = 0 then -2000000001 else if fRemR (fPlace (wCnt (lWat (xLoop x))) (wSig (lWat (xLoop x))) s) = 0 then -2000000004 else wCnt (fRemove (lWat (xLoop x)) s)
def gUnwatch (x : Xst) (s : Int32) : Xst := if fSig s = 0 then x else xPut_loop x (lPut_watches (xLoop x) (fRemove (lWat (xLoop x)) s))
def rWatchedAt (x : Xst) (i : Int32) : Int32 := if 0 ≤ i then (if wCnt (lWat (xLoop x)) ≤ i then -2000000004 else if 4 ≤ i then -2000000004 else wSig (lWat (xLoop x)) i.toNatClampNeg) else -2000000001
def rExtreme1 (w : Wat) (pl what : Int32) : Int32 := if pl = -1 then -2000000002 else if fSeen (wGtick w) pl = 0 then -2000000004 else fWget w pl what
def rExtreme (x : Xst) (s what : Int32) : Int32 := if fSig s = 0 then -2000000001 else if what < 0 then -2000000001 else if what ≤ 2 then rExtreme1 (lWat (xLoop x)) (fPlace (wCnt (lWat (xLoop x))) (wSig (lWat (xLoop x))) s) what else -2000000001
def rMeasure (x : Xst) (k : Int32) : Int64 := if k = 0 then sErr (lSec (xLoop x)) else if k = 1 then sEff (lSec (xLoop x)) else if k = 2 then (sOver (lSec (xLoop x))).toInt64 else if k = 3 then (sTicks (lSec (xLoop x))).toInt64 else -2000000001
def fStAt (a : Nat → Nat) (k : Int32) : Nat := if k = 0 then a 24 else a 33
def rStore (x : Xst) : Int32 := if xCnt x < 2 then xCnt x + 1 else -2000000003
def gStore (x : Xst) : Xst := if xCnt x = 0 then xPut_storedStates (xPut_firstStored x (fLoopCopy (xFst x) (xLoop x))) (0 + 1) else if xCnt x = 1 then xPut_storedStates (xPut_secondStored x (fLoopCopy (xSnd x) (xLoop x))) (1 + 1) else x
def rRecall (x : Xst) : Int32 := if xCnt x = 0 then -2000000002 else xCnt x - 1
def gRecall (x : Xst) : Xst := if xCnt x = 0 then x else if xCnt x = 1 then xPut_storedStates (xPut_loop x (fLoopCopy (xLoop x) (xFst x))) (1 - 1) else xPut_storedStates (xPut_loop x (fLoopCopy (xLoop x) (xSnd x))) (2 - 1)
def fCorr (now : Int32) (recs : Nat → Int32) (g : Int32) (lag : Int32) : Int64 := if 0 ≤ g then fAgree now recs lag else -(fAgree now recs lag)
def xCorr (x : Xst) (lag : Int32) : Int64 := fCorr (lNow (xLoop x)) (lRecs (xLoop x)) (fGet (xSet x) 5) lag
def rCorrelation (x : Xst) (lag : Int32) : Int64 := if lag < 0 then -2000000001 else if lag ≤ 30 then xCorr x lag else -2000000001
theorem i2c_id {k : Int32} (h1 : ¬ k < 32) (h2 : k ≤ 126) : (k.toUInt32 % 65536).toInt32 = k := by
  have a := Int32.not_lt.mp h1
  obtain ⟨j, hj, rfl⟩ := nI_of (show ¬ k < 0 from fun q => h1 (Int32.lt_of_lt_of_le q (by decide)))
  have hb : j ≤ 126 := by rw [show (126 : Int32) = nI 126 from rfl, nI_leI hj (by decide)] at h2; exact h2
  have hc := pk_char (nI j)
  rw [hc, pk_tn (by omega), Nat.mod_eq_of_lt (by omega)]
theorem nar_ch {k : Int32} (h1 : ¬ k < 32) (h2 : k ≤ 126) : vp_nar .char k = k := by
  have h := i2c_id h1 h2
  rw [← h]; exact pk_vc k
theorem tb_out4 {k : Int32} (h0 : ¬ k = 0) (h1 : ¬ k = 1) (h2 : ¬ k = 2) (h3 : ¬ k = 3) : ¬ (0 ≤ k.toInt ∧ k.toInt ≤ 3) := by
  rintro ⟨a, b⟩
  have q0 := lv_neT h0 (a := 0) rfl
  have q1 := lv_neT h1 (a := 1) rfl
  have q2 := lv_neT h2 (a := 2) rfl
  have q3 := lv_neT h3 (a := 3) rfl
  omega
