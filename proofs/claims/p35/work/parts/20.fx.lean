/-! what the class's methods answer and make of the bundles, close to the Java -/
def kFdiv (x y : Int64) : Int64 := if 0 ≤ x ^^^ y then x / y else if (x / y) * y = x then x / y else x / y - 1
def kFmod (x y : Int32) : Int32 := if 0 ≤ x ^^^ y then x - x / y * y else if x - x / y * y = 0 then x - x / y * y else (x - x / y * y) + y
def fPar (k : Int32) : Int32 := if k < 0 then 0 else if 15 ≤ k then 0 else 1
def fSig (k : Int32) : Int32 := if k < 0 then 0 else if 10 ≤ k then 0 else 1
def fLev (v : Int32) : Int32 := if v < -100000 then 0 else if 100000 < v then 0 else 1
def fThou (x : Int64) : Int64 := kFdiv x 1000
def fStep (s g w : Int64) : Int32 := (s + fThou (w * (g - s))).toInt32
def fLim (v lo hi : Int64) : Int64 := kMinL (kMaxL v lo) hi
def fGet (v : Sett) (k : Int32) : Int32 := if fPar k = 0 then 0 else v k.toNatClampNeg
def fSet (v : Sett) (k x : Int32) : Sett := if fPar k = 0 then v else upd v k.toNatClampNeg x
def fRec (now : Int32) (recs : Nat → Int32) (sg tk : Int32) : Int32 := if fSig sg = 0 then 0 else if tk < 0 then 0 else if now ≤ tk then 0 else if now - 64 ≤ tk then recs ((sg * 64) + kFmod tk 64).toNatClampNeg else 0
def fSecBegin (up : Int32) : Sec := (0, 0, 0, 0, up)
def fSetR (σ : Lop) (v : Int32) : Lop := (lNow σ, lLoad σ, lSeed σ, lBad σ, lGood σ, upd (lPres σ) 0 v, lRecs σ, fSecBegin (if v < lPres σ 0 then 0 else 1), lWat σ)
/-- agreement: the sum from tick t on, n ticks at most -/
def fAgr (now : Int32) (recs : Nat → Int32) (lag : Int32) : Nat → Int32 → Int64 → Int64
  | 0, _, sum => sum
  | n + 1, t, sum => if now ≤ t then sum else fAgr now recs lag n (t + 1) (sum + (fRec now recs 2 ((t - 1) - lag) - fRec now recs 2 (((t - 1) - lag) - 1)).toInt64 * (fRec now recs 1 t - fRec now recs 1 (t - 1)).toInt64)
theorem fAgr_s (now : Int32) (recs : Nat → Int32) (lag : Int32) (n : Nat) (t : Int32) (sum : Int64) : fAgr now recs lag (n + 1) t sum = if now ≤ t then sum else fAgr now recs lag n (t + 1) (sum + (fRec now recs 2 ((t - 1) - lag) - fRec now recs 2 (((t - 1) - lag) - 1)).toInt64 * (fRec now recs 1 t - fRec now recs 1 (t - 1)).toInt64) := rfl
def fAgree (now : Int32) (recs : Nat → Int32) (lag : Int32) : Int64 := fAgr now recs lag 33 (kMax 0 (now - 32)) 0
def fNoise (now seed amp : Int32) : Int32 := if 1 ≤ 2 * amp.toInt64 + 1 then (lRem (lRem (((7919 * now.toInt64 + 6151 * seed.toInt64) + 1) * ((7919 * now.toInt64 + 6151 * seed.toInt64) + 1)) 65521) (2 * amp.toInt64 + 1) - amp.toInt64).toInt32 else 0
def fDelNew (now : Int32) (recs : Nat → Int32) (sg value tk : Int32) : Int64 := if tk = 0 then value.toInt64 else (fRec now recs sg (now - tk)).toInt64
def fDel2 (newer older : Int64) (part : Int32) : Int32 := (kFdiv (newer * (10 - part).toInt64 + older * part.toInt64) 10).toInt32
def fDelay (now : Int32) (recs : Nat → Int32) (sg value tenths : Int32) : Int32 := fDel2 (fDelNew now recs sg value (tenths / 10)) (fRec now recs sg ((now - tenths / 10) - 1)).toInt64 (iRem tenths 10)
def lSetP (σ : Lop) (p : Nat → Int32) : Lop := (lNow σ, lLoad σ, lSeed σ, lBad σ, lGood σ, p, lRecs σ, lSec σ, lWat σ)
def fBad (isBad bad : Int32) : Int32 := if isBad = 0 then 0 else bad + 1
def fGood (isBad good : Int32) : Int32 := if isBad = 0 then good + 1 else 0
def fRej (mode bad pat : Int32) : Int32 := if mode = 0 then (if bad < pat then 0 else 1) else 0
def fTru (mode good pat : Int32) : Int32 := if mode = 1 then (if good < 2 * pat then 0 else 1) else 0
def fJudge2 (σ : Lop) (bad good rej tru : Int32) : Lop := if rej = 0 then (if tru = 0 then (lNow σ, lLoad σ, lSeed σ, bad, good, lPres σ, lRecs σ, lSec σ, lWat σ) else (lNow σ, lLoad σ, lSeed σ, 0, 0, upd (lPres σ) 9 0, lRecs σ, lSec σ, lWat σ)) else (lNow σ, lLoad σ, lSeed σ, 0, 0, upd (lPres σ) 9 1, lRecs σ, lSec σ, lWat σ)
def fJudge (σ : Lop) (isBad pat : Int32) : Lop := fJudge2 σ (fBad isBad (lBad σ)) (fGood isBad (lGood σ)) (fRej (lPres σ 9) (fBad isBad (lBad σ)) pat) (fTru (lPres σ 9) (fGood isBad (lGood σ)) pat)
def fLess (mode ideal : Int32) : Int32 := if mode = 1 then (if ideal = 0 then 1 else 0) else 0
def fFeed (less ideal m x f : Int32) : Int32 := if less = 0 then (if ideal = 0 then x + f else m) else m
def fProp (less kp : Int32) : Int64 := if less = 0 then kp.toInt64 else (kp / 2).toInt64
def fInte (less ki : Int32) : Int64 := if less = 0 then ki.toInt64 else (ki / 4).toInt64
def fOut (u : Int32) (wanted : Int64) (v : Sett) : Int64 := fLim (fLim wanted (fGet v 9).toInt64 (fGet v 10).toInt64) (u.toInt64 - (fGet v 11).toInt64) (u.toInt64 + (fGet v 11).toInt64)
/-- whether i is held back -/
def fHeld (output wanted : Int64) (e : Int32) : Int32 := if wanted ≤ output then (if output ≤ wanted then 0 else if 0 ≤ e then 0 else 1) else if 0 < e then 1 else if output ≤ wanted then 0 else if 0 ≤ e then 0 else 1
def fCtl3 (p : Nat → Int32) (e : Int32) (sum output : Int64) (held : Int32) : Nat → Int32 := if held = 0 then upd (upd (upd p 6 e) 2 output.toInt32) 7 sum.toInt32 else upd (upd p 6 e) 2 output.toInt32
def fCtl2 (p : Nat → Int32) (e : Int32) (sum wanted output : Int64) : Nat → Int32 := fCtl3 p e sum output (fHeld output wanted e)
def fCtl1 (p : Nat → Int32) (v : Sett) (e : Int32) (sum wanted : Int64) : Nat → Int32 := fCtl2 p e sum wanted (fOut (p 2) wanted v)
def fCtl0 (p : Nat → Int32) (v : Sett) (prop inte : Int64) (e : Int32) : Nat → Int32 := fCtl1 p v e ((p 7).toInt64 + fThou (inte * e.toInt64)) (fThou (prop * e.toInt64) + ((p 7).toInt64 + fThou (inte * e.toInt64)))
def fCtl (p : Nat → Int32) (v : Sett) (ideal : Int32) : Nat → Int32 := fCtl0 p v (fProp (fLess (p 9) ideal) (fGet v 0)) (fInte (fLess (p 9) ideal) (fGet v 1)) (p 0 - fFeed (fLess (p 9) ideal) ideal (p 1) (p 3) (p 5))
/-- the records behind the first k signals -/
def fKeepN (now : Int32) (pres recs : Nat → Int32) : Nat → Nat → Int32
  | 0 => recs
  | k + 1 => upd (fKeepN now pres recs k) ((nI k * 64) + kFmod now 64).toNatClampNeg (pres k)
def fKeep (now : Int32) (pres recs : Nat → Int32) : Nat → Int32 := fKeepN now pres recs 10
def fOver (up m r over : Int32) : Int32 := kMax over (if up = 0 then r - m else m - r)
def fSecSee (x : Sec) (r m d : Int32) : Sec := (sErr x + (kAbs (r - m)).toInt64, sEff x + (kAbs d).toInt64, fOver (sUp x) m r (sOver x), sTicks x + 1, sUp x)
def fPlaceN (cnt : Int32) (sig : Nat → Int32) (s : Int32) : Nat → Nat → Int32
  | 0, _ => -1
  | n + 1, i => if cnt ≤ nI i then -1 else if 4 ≤ nI i then -1 else if sig i = s then nI i else fPlaceN cnt sig s n (i + 1)
def fPlace (cnt : Int32) (sig : Nat → Int32) (s : Int32) : Int32 := fPlaceN cnt sig s 5 0
def wAddAt (w : Wat) (k : Nat) (s cnt : Int32) : Wat := (upd (wSig w) k s, wLeast w, wGreat w, upd (wGtick w) k (-1), cnt)
def fAdd1 (w : Wat) (s pl : Int32) : Wat := if pl = -1 then (if wCnt w < 4 then wAddAt w (wCnt w).toNatClampNeg s (wCnt w + 1) else w) else wAddAt w pl.toNatClampNeg s (wCnt w)
def fAdd (w : Wat) (s : Int32) : Wat := fAdd1 w s (fPlace (wCnt w) (wSig w) s)
def fAddR (cnt pl : Int32) : Int32 := if pl = -1 then (if cnt < 4 then 1 else 0) else 1
/-- the cells behind place j move up by one, from place i on -/
def fShift1 (w : Wat) (i : Nat) : Wat := (upd (wSig w) (i - 1) (wSig w i), upd (wLeast w) (i - 1) (wLeast w i), upd (wGreat w) (i - 1) (wGreat w i), upd (wGtick w) (i - 1) (wGtick w i), wCnt w)
def fShiftN : Nat → Nat → Wat → Wat
  | 0, _, w => w
  | n + 1, i, w => if wCnt w ≤ nI i then w else if 4 ≤ nI i then w else fShiftN n (i + 1) (fShift1 w i)
theorem fShiftN_s (n i : Nat) (w : Wat) : fShiftN (n + 1) i w = if wCnt w ≤ nI i then w else if 4 ≤ nI i then w else fShiftN n (i + 1) (fShift1 w i) := rfl
def wDec (w : Wat) : Wat := (wSig w, wLeast w, wGreat w, wGtick w, wCnt w - 1)
def fRemove1 (w : Wat) (pl : Int32) : Wat := if pl = -1 then w else wDec (fShiftN 5 (pl.toNatClampNeg + 1) w)
def fRemove (w : Wat) (s : Int32) : Wat := fRemove1 w (fPlace (wCnt w) (wSig w) s)
def fRemR (pl : Int32) : Int32 := if pl = -1 then 0 else 1
def fSeen (gt : Nat → Int32) (k : Int32) : Int32 := if k < 0 then 0 else if 4 ≤ k then 0 else if gt k.toNatClampNeg = -1 then 0 else 1
def fWget (w : Wat) (k what : Int32) : Int32 := if k < 0 then -2000000004 else if k < 4 then (if what = 0 then wLeast w k.toNatClampNeg else if what = 1 then wGreat w k.toNatClampNeg else wGtick w k.toNatClampNeg) else -2000000004
def fFirst (gt : Nat → Int32) (k : Int32) : Int32 := if fSeen gt k = 0 then 1 else 0
def fSeeLo (first v : Int32) (lo : Nat → Int32) (k : Nat) : Nat → Int32 := if first = 0 then (if lo k ≤ v then lo else upd lo k v) else upd lo k v
def fSeeHi (first v : Int32) (hi : Nat → Int32) (k : Nat) : Nat → Int32 := if first = 0 then (if v ≤ hi k then hi else upd hi k v) else upd hi k v
def fSeeGt (first v tick : Int32) (hi gt : Nat → Int32) (k : Nat) : Nat → Int32 := if first = 0 then (if v ≤ hi k then gt else upd gt k tick) else upd gt k tick
def fSeeOne1 (w : Wat) (first : Int32) (k : Nat) (v tick : Int32) : Wat := (wSig w, fSeeLo first v (wLeast w) k, fSeeHi first v (wGreat w) k, fSeeGt first v tick (wGreat w) (wGtick w) k, wCnt w)
def fSeeOne (w : Wat) (k v tick : Int32) : Wat := fSeeOne1 w (fFirst (wGtick w) k) k.toNatClampNeg v tick
def fWsee1 (w : Wat) (p : Nat → Int32) (i : Nat) (tick : Int32) : Wat := if wSig w i < 0 then w else if 10 ≤ wSig w i then w else fSeeOne w (nI i) (p (wSig w i).toNatClampNeg) tick
def fWseeN (p : Nat → Int32) (tick : Int32) : Nat → Nat → Wat → Wat
  | 0, _, w => w
  | n + 1, i, w => if wCnt w ≤ nI i then w else if 4 ≤ nI i then w else fWseeN p tick n (i + 1) (fWsee1 w p i tick)
def fWsee (w : Wat) (p : Nat → Int32) (tick : Int32) : Wat := fWseeN p tick 5 0 w
def fYx (p : Nat → Int32) (v : Sett) (input : Int64) : Nat → Int32 := upd (upd p 8 (fStep (p 8).toInt64 (fThou ((fGet v 2).toInt64 * input)) (1000 - fGet v 3).toInt64)) 3 (fStep (p 3).toInt64 (fThou ((fGet v 5).toInt64 * (p 2).toInt64)) (1000 - fGet v 6).toInt64)
def fMove (σ : Lop) (v : Sett) : Lop := (lNow σ + 1, lLoad σ, lSeed σ, lBad σ, lGood σ, fYx (lPres σ) v (fDelay (lNow σ) (lRecs σ) 2 (lPres σ 2) (fGet v 4) + lLoad σ).toInt64, lRecs σ, lSec σ, lWat σ)
def fLoud (mis lim : Int32) : Int32 := if mis ≤ lim then 0 else 1
def fTick1 (σ : Lop) (v : Sett) (m p : Int32) : Lop := fJudge (lSetP σ (upd (upd (upd (lPres σ) 1 m) 4 p) 5 (fStep (lPres σ 5).toInt64 (m - p).toInt64 (1000 - fGet v 8).toInt64))) (fLoud (kAbs (m - p)) (fGet v 12)) (fGet v 13)
def fTick2 (σ : Lop) (v : Sett) (ideal : Int32) : Lop := lSetP σ (fCtl (lPres σ) v ideal)
def fTick3 (σ : Lop) : Lop := (lNow σ, lLoad σ, lSeed σ, lBad σ, lGood σ, lPres σ, fKeep (lNow σ) (lPres σ) (lRecs σ), lSec σ, lWat σ)
def fTick4 (σ : Lop) (u0 : Int32) : Lop := (lNow σ, lLoad σ, lSeed σ, lBad σ, lGood σ, lPres σ, lRecs σ, fSecSee (lSec σ) (lPres σ 0) (lPres σ 1) (lPres σ 2 - u0), fWsee (lWat σ) (lPres σ) (lNow σ))
def fTick (σ : Lop) (v : Sett) (ideal : Int32) : Lop := fMove (fTick4 (fTick3 (fTick2 (fTick1 σ v (lPres σ 8 + fNoise (lNow σ) (lSeed σ) (fGet v 14)) (fDelay (lNow σ) (lRecs σ) 3 (lPres σ 3) (fGet v 7))) v ideal)) (lPres σ 2)) v
def fLoopCopy (σ τ : Lop) : Lop := (lNow τ, lLoad τ, lSeed τ, lBad τ, lGood τ, va_cpy (lPres τ) (lPres σ) 0 0 10, va_cpy (lRecs τ) (lRecs σ) 0 0 640, lSec τ, (va_cpy (wSig (lWat τ)) (wSig (lWat σ)) 0 0 4, va_cpy (wLeast (lWat τ)) (wLeast (lWat σ)) 0 0 4, va_cpy (wGreat (lWat τ)) (wGreat (lWat σ)) 0 0 4, va_cpy (wGtick (lWat τ)) (wGtick (lWat σ)) 0 0 4, wCnt (lWat τ)))
def fZeroN (p : Nat → Int32) : Nat → Nat → Int32
  | 0 => p
  | k + 1 => upd (fZeroN p k) k 0
def fBegin (σ : Lop) : Lop := (0, 0, 0, 0, 0, fZeroN (lPres σ) 10, lRecs σ, fSecBegin 1, (wSig (lWat σ), wLeast (lWat σ), wGreat (lWat σ), wGtick (lWat σ), 0))
theorem fSig_bit (k : Int32) : narrow .boolean (.int (fSig k)) = .int (fSig k) := by unfold fSig; split; rfl; split <;> rfl
theorem fPar_in {k : Int32} (h : ¬ fPar k = 0) : vp_in k 15 := by
  unfold fPar at h
  by_cases h1 : k < 0
  · simp [h1] at h
  · by_cases h2 : (15 : Int32) ≤ k
    · simp [h1, h2] at h
    · rw [vp_in_iff]
      have a := Int32.not_lt.mp h1
      have b := Int32.not_le.mp h2
      rw [Int32.le_iff_toInt_le] at a
      rw [Int32.lt_iff_toInt_lt] at b
      exact ⟨by simpa using a, by simpa using b⟩
theorem fSig_in {k : Int32} (h : ¬ fSig k = 0) : vp_in k 10 := by
  unfold fSig at h
  by_cases h1 : k < 0
  · simp [h1] at h
  · by_cases h2 : (10 : Int32) ≤ k
    · simp [h1, h2] at h
    · rw [vp_in_iff]
      have a := Int32.not_lt.mp h1
      have b := Int32.not_le.mp h2
      rw [Int32.le_iff_toInt_le] at a
      rw [Int32.lt_iff_toInt_lt] at b
      exact ⟨by simpa using a, by simpa using b⟩
theorem kFmod64 (j : Nat) (hj : j < 2 ^ 31) : kFmod (nI j) 64 = nI (j % 64) := by
  have h := pk_rem (a := j) (d := 64) hj (by decide) (by decide)
  have e : (64 : Int32) = nI 64 := rfl
  have hn : ¬ nI (j % 64) < 0 := nI_pos (by omega)
  unfold kFmod
  rw [e, h]
  split
  · rfl
  · rename_i h1
    exfalso
    apply h1
    rw [Int32.le_iff_toInt_le]
    have h2 : (nI j ^^^ nI 64).toBitVec = (nI (j ^^^ 64)).toBitVec := by
      rw [Int32.toBitVec_xor]
      show BitVec.ofNat 32 j ^^^ BitVec.ofNat 32 64 = BitVec.ofNat 32 (j ^^^ 64)
      apply BitVec.eq_of_toNat_eq
      simp [BitVec.toNat_xor, Nat.mod_eq_of_lt (show j < 2 ^ 32 by omega), Nat.mod_eq_of_lt (show j ^^^ 64 < 2 ^ 32 from Nat.xor_lt_two_pow (by omega) (by decide))]
    have h3 : nI j ^^^ nI 64 = nI (j ^^^ 64) := Int32.toBitVec_inj.mp h2
    rw [h3, nI_toInt (Nat.xor_lt_two_pow hj (by decide))]
    simp
theorem rec_in {sg tk : Int32} (h : ¬ fSig sg = 0) (h2 : ¬ tk < 0) : vp_in ((sg * 64) + kFmod tk 64) 640 := by
  obtain ⟨j, hj, rfl⟩ := vp_in_of (fSig_in h) (by decide)
  obtain ⟨t, ht, rfl⟩ := nI_of h2
  rw [kFmod64 t ht, show (64 : Int32) = nI 64 from rfl, pk_mul, nI_add]
  exact vp_in_nI (by omega) (by decide)
theorem isB_nar {v : Int32} (h : v = 0 ∨ v = 1) : narrow .boolean (.int v) = .int v := by rcases h with rfl | rfl <;> rfl
theorem isB_fit {v : Int32} (h : v = 0 ∨ v = 1) : fits .boolean (.int v) = true := by rcases h with rfl | rfl <;> rfl
theorem ne_of_1le {x : Int64} (h : 1 ≤ x) : ¬ x = 0 := by rintro rfl; exact absurd h (by decide)
theorem nI_of_place {x : Int32} {i : Nat} (h : x = nI i) (hi : i < 2 ^ 31) : x.toNatClampNeg = i := by rw [h]; exact nI_clamp hi
theorem lt_of_nle {i k : Nat} (h : ¬ nI k ≤ nI i) (hi : i < 2 ^ 31) (hk : k < 2 ^ 31) : i < k := by
  rcases Nat.lt_or_ge i k with q | q
  · exact q
  · exact absurd (nI_le q hi) h
theorem keep_in {now : Int32} {k : Nat} (hk : k < 10) (h2 : ¬ now < 0) : vp_in ((nI k * 64) + kFmod now 64) 640 := by
  obtain ⟨t, ht, rfl⟩ := nI_of h2
  rw [kFmod64 t ht, show (64 : Int32) = nI 64 from rfl, pk_mul, nI_add]
  exact vp_in_nI (by omega) (by decide)
theorem in_rng {x : Int32} {n : Nat} (hn : n < 2 ^ 31) (h1 : ¬ x < 0) (h2 : ¬ nI n ≤ x) : vp_in x n := by
  obtain ⟨j, hj, rfl⟩ := nI_of h1
  exact vp_in_nI (lt_of_nle h2 hj hn) hn
theorem in_lt4 {x : Int32} (h1 : ¬ x < 0) (h2 : x < 4) : vp_in x 4 := in_rng (n := 4) (by decide) h1 (Int32.not_le.mpr h2)
theorem nI_pm {i : Nat} (h : 1 ≤ i) : nI i - 1 = nI (i - 1) := by
  rw [show (1 : Int32) = nI 1 from rfl, pk_sub h]
theorem placeN_in (cnt : Int32) (sig : Nat → Int32) (s : Int32) : ∀ n i : Nat, i + n ≤ 5 → ¬ fPlaceN cnt sig s n i = -1 → vp_in (fPlaceN cnt sig s n i) 4
  | 0, i, h, hne => absurd rfl hne
  | n + 1, i, h, hne => by
    unfold fPlaceN at hne ⊢
    by_cases h1 : cnt ≤ nI i
    · simp [h1] at hne
    · by_cases h2 : (4 : Int32) ≤ nI i
      · simp [h1, h2] at hne
      · by_cases h3 : sig i = s
        · simp only [h1, h2, h3, if_true, if_false]
          exact vp_in_nI (lt_of_nle (k := 4) h2 (by omega) (by decide)) (by decide)
        · simp only [h1, h2, h3, if_false] at hne ⊢
          exact placeN_in cnt sig s n (i + 1) (by omega) hne
theorem place_in {cnt : Int32} {sig : Nat → Int32} {s : Int32} (h : ¬ fPlace cnt sig s = -1) : vp_in (fPlace cnt sig s) 4 := placeN_in cnt sig s 5 0 (by omega) h
theorem fJudge2_now (σ : Lop) (b g r t : Int32) : lNow (fJudge2 σ b g r t) = lNow σ := by unfold fJudge2; split <;> (try split) <;> rfl
theorem fJudge_now (σ : Lop) (b p : Int32) : lNow (fJudge σ b p) = lNow σ := fJudge2_now ..
theorem max0 {N : Nat} (h : N < 2 ^ 31) : kMax 0 (nI N - 32) = nI (N - 32) := by
  unfold kMax
  rcases Nat.lt_or_ge N 32 with q | q
  · rw [if_neg, show N - 32 = 0 by omega]; rfl
    rw [Int32.lt_iff_toInt_lt]
    have e : (nI N - 32).toInt = (N : Int) - 32 := pk_sub_toInt (a := N) (b := 32) (by omega) (by decide)
    rw [e]; simp; omega
  · have e : nI N - 32 = nI (N - 32) := pk_sub q
    rw [e]
    split
    · rfl
    · rename_i h2
      rcases Nat.eq_zero_or_pos (N - 32) with z | z
      · rw [z]; rfl
      · exact absurd (nI_lt (a := 0) z (by omega)) h2
/-! changes -/
def cForget (R : Nat → Nat → Int32) : Nat → Nat → Int32 := va_up (va_up (va_up (va_up (va_up R 0 (va_cpy (R 1) (R 0) 0 0 15)) 1 (va_cpy (R 2) (R 1) 0 0 15)) 2 (va_cpy (R 3) (R 2) 0 0 15)) 3 (va_cpy (R 4) (R 3) 0 0 15)) 4 (va_cpy (R 5) (R 4) 0 0 15)
def cForgetC (x : Chg) : Chg := (cForget (cRows x), 5)
def cPush (R : Nat → Nat → Int32) (k : Nat) (v : Sett) : Nat → Nat → Int32 := va_up R k (va_cpy v (R k) 0 0 15)
def cKeep (x : Chg) (v : Sett) : Chg := if cCnt x = 6 then (cPush (cForget (cRows x)) 5 v, 6) else (cPush (cRows x) (cCnt x).toNatClampNeg v, cCnt x + 1)
def cBackC (x : Chg) : Chg := if cCnt x = 0 then x else (cRows x, cCnt x - 1)
def cBackV (x : Chg) (v : Sett) : Sett := if cCnt x = 0 then v else va_cpy (cRows x ((cCnt x).toNatClampNeg - 1)) v 0 0 15
def fAllows (k v : Int32) : Int32 := if fPar k = 0 then 0 else if v < pLeast k.toNatClampNeg then 0 else if pGreatest k.toNatClampNeg < v then 0 else 1

