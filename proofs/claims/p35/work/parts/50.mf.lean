/-! the reference: what its methods answer and make of its state, close to its Java; n is the row 'now', q the parameters -/
def mIn (v lo hi : Int64) : Int32 := if v < lo then 0 else if hi < v then 0 else 1
def mSize (v : Int64) : Int64 := if 0 ≤ v then v else -v
def mFloor (x y : Int64) : Int64 := if (x / y) * y ≤ x then x / y else x / y - 1
abbrev mRow : Type := Nat → Int64
def mAt (n : mRow) (sg : Int32) (t : Int64) : Int64 := if 0 ≤ t then n ((64 * sg) + (lRem t 64).toInt32).toNatClampNeg else 0
def mRec (n : mRow) (sg : Int32) (v : Int64) : mRow := vp_updL n ((64 * sg) + (lRem (n 640) 64).toInt32).toNatClampNeg v
def mDel (n : mRow) (sg dd : Int32) : Int64 := mFloor (mAt n sg (n 640 - (dd / 10).toInt64) * (10 - iRem dd 10).toInt64 + mAt n sg ((n 640 - (dd / 10).toInt64) - 1) * (iRem dd 10).toInt64) 10
def mNz1 (x : Int64) (a : Int32) : Int64 := lRem (lRem (x * x) 65521) (2 * a.toInt64 + 1) - a.toInt64
def mNoise (n : mRow) (q : Nat → Int32) : Int64 := mNz1 ((7919 * n 640 + 6151 * n 643) + 1) (q 14)
def mSteps (s g : Int64) (w : Int32) : Int64 := s + mFloor (w.toInt64 * (g - s)) 1000
def mJudB (q : Nat → Int32) (mis : Int64) : Int32 := if mSize mis ≤ (q 12).toInt64 then 0 else 1
def mJudT (n : mRow) (q : Nat → Int32) (bd gd : Int64) : Int32 := if n 648 = 0 then (if bd < (q 13).toInt64 then 0 else 1) else (if gd < 2 * (q 13).toInt64 then 0 else 1)
def mJud2 (n : mRow) (bd gd : Int64) (turn : Int32) : mRow := if turn = 0 then vp_updL (vp_updL n 649 bd) 650 gd else vp_updL (vp_updL (vp_updL (vp_updL (vp_updL n 649 bd) 650 gd) 648 (1 - n 648)) 649 0) 650 0
def mJud1 (n : mRow) (q : Nat → Int32) (bd gd : Int64) : mRow := mJud2 n bd gd (mJudT n q bd gd)
def mJud0 (n : mRow) (q : Nat → Int32) (isBad : Int32) : mRow := mJud1 n q (if isBad = 0 then 0 else n 649 + 1) (if isBad = 0 then n 650 + 1 else 0)
def mJud (n : mRow) (q : Nat → Int32) (mis : Int64) : mRow := mJud0 n q (mJudB q mis)
def mMod (n : mRow) (id : Int32) : Int32 := if n 648 = 0 then (if id = 0 then 1 else 0) else 0
def mFul (n : mRow) (id : Int32) : Int32 := if n 648 = 0 then 1 else if id = 0 then 0 else 1
def mKp (ful : Int32) (q : Nat → Int32) : Int64 := if ful = 0 then (q 0 / 2).toInt64 else (q 0).toInt64
def mKi (ful : Int32) (q : Nat → Int32) : Int64 := if ful = 0 then (q 1 / 4).toInt64 else (q 1).toInt64
def mFb (md : Int32) (n : mRow) : Int64 := if md = 0 then n 652 else n 645 + n 646
def mClip (w : Int64) (q : Nat → Int32) : Int64 := if w ≤ (q 10).toInt64 then (if (q 9).toInt64 ≤ w then w else (q 9).toInt64) else (q 10).toInt64
def mRt (v had : Int64) (q : Nat → Int32) : Int64 := if v ≤ had + (q 11).toInt64 then (if had - (q 11).toInt64 ≤ v then v else had - (q 11).toInt64) else had + (q 11).toInt64
def mHoldB (u w er : Int64) : Int32 := if w ≤ u then (if u ≤ w then 0 else if 0 ≤ er then 0 else 1) else if 0 < er then 1 else if u ≤ w then 0 else if 0 ≤ er then 0 else 1
def mHold (hd : Int32) (i j : Int64) : Int64 := if hd = 0 then j else i
def mCtl5 (n : mRow) (er u i had : Int64) : mRow := vp_updL (vp_updL (vp_updL (vp_updL n 654 er) 651 u) 647 i) 657 (n 657 + mSize (u - had))
def mCtl4 (n : mRow) (er j w u : Int64) : mRow := mCtl5 n er u (mHold (mHoldB u w er) (n 647) j) (n 651)
def mCtl3 (n : mRow) (q : Nat → Int32) (er j w : Int64) : mRow := mCtl4 n er j w (mRt (mClip w q) (n 651) q)
def mCtl2 (n : mRow) (q : Nat → Int32) (er kp ki : Int64) : mRow := mCtl3 n q er (n 647 + mFloor (ki * er) 1000) (mFloor (kp * er) 1000 + (n 647 + mFloor (ki * er) 1000))
def mCtl1 (n : mRow) (q : Nat → Int32) (md ful : Int32) : mRow := mCtl2 n q (n 641 - mFb md n) (mKp ful q) (mKi ful q)
def mCtl (n : mRow) (q : Nat → Int32) (id : Int32) : mRow := mCtl1 n q (mMod n id) (mFul n id)
def mOv (n : mRow) : Int64 := if n 641 < n 655 then n 641 - n 652 else n 652 - n 641
def mMea1 (n : mRow) (ov : Int64) : mRow := vp_updL (vp_updL (vp_updL n 658 (if ov ≤ n 658 then n 658 else ov)) 656 (n 656 + mSize (n 641 - n 652))) 659 (n 659 + 1)
def mMea (n : mRow) : mRow := mMea1 n (mOv n)
def mWat5 (n : mRow) (j : Nat) (v : Int64) : mRow := vp_updL (vp_updL n (661 + 5 * j + 3) v) (661 + 5 * j + 4) ((vp_updL n (661 + 5 * j + 3) v) 640)
def mWat4 (n : mRow) (j : Nat) (v : Int64) (first : Int32) : mRow := vp_updL (if first = 0 then (if v ≤ n (661 + 5 * j + 3) then n else mWat5 n j v) else mWat5 n j v) (661 + 5 * j + 1) 1
def mWat3 (n : mRow) (j : Nat) (v : Int64) (first : Int32) : mRow := vp_updL n (661 + 5 * j + 2) (if first = 0 then (if n (661 + 5 * j + 2) ≤ v then n (661 + 5 * j + 2) else v) else v)
def mWat2 (n : mRow) (j : Nat) (v : Int64) (first : Int32) : mRow := mWat4 (mWat3 n j v first) j v first
def mWat1 (n : mRow) (j : Nat) : mRow := mWat2 n j (mAt n (n (661 + 5 * j)).toInt32 (n 640)) (if n (661 + 5 * j + 1) = 0 then 1 else 0)
def mWatN : Nat → Nat → mRow → mRow
  | 0, _, n => n
  | k + 1, j, n => if n 660 ≤ (nI j).toInt64 then n else mWatN k (j + 1) (mWat1 n j)
theorem mWatN_s (k j : Nat) (n : mRow) : mWatN (k + 1) j n = if n 660 ≤ (nI j).toInt64 then n else mWatN k (j + 1) (mWat1 n j) := rfl
def mWat (n : mRow) : mRow := mWatN 5 0 n
def mTkA (n : mRow) (q : Nat → Int32) : mRow := mRec (vp_updL n 652 (n 644 + mNoise n q)) 3 (n 645)
def mTkB (n : mRow) : mRow := mRec n 8 (n 644)
def mTkC (n : mRow) (q : Nat → Int32) (d : Int64) : mRow := mJud (vp_updL (vp_updL n 653 d) 646 (mSteps (n 646) (n 652 - d) (1000 - q 8))) q (n 652 - d)
def mTkD (n : mRow) : mRow := mRec n 2 (n 651)
def mTkE0 (n : mRow) : mRow := mRec n 0 (n 641)
def mTkE1 (n : mRow) : mRow := mRec n 1 (n 652)
def mTkE2 (n : mRow) : mRow := mRec n 4 (n 653)
def mTkE3 (n : mRow) : mRow := mRec n 5 (n 646)
def mTkE4 (n : mRow) : mRow := mRec n 6 (n 654)
def mTkE5 (n : mRow) : mRow := mRec n 7 (n 647)
def mTkE6 (n : mRow) : mRow := mRec n 9 (n 648)
def mTkE (n : mRow) : mRow := mTkE6 (mTkE5 (mTkE4 (mTkE3 (mTkE2 (mTkE1 (mTkE0 n))))))
def mTkF (n : mRow) (q : Nat → Int32) (v : Int64) : mRow := vp_updL (vp_updL (vp_updL n 644 (mSteps (n 644) (mFloor ((q 2).toInt64 * (v + n 642)) 1000) (1000 - q 3))) 645 (mSteps (n 645) (mFloor ((q 5).toInt64 * n 651) 1000) (1000 - q 6))) 640 (n 640 + 1)
def mDd (q : Nat → Int32) (id : Int32) : Int32 := if id = 0 then q 4 else 0
def mTk3 (n : mRow) (q : Nat → Int32) (v : Int64) : mRow := mTkF (mWat (mMea (mTkE n))) q v
def mTk2 (n : mRow) (q : Nat → Int32) (id : Int32) : mRow := mTk3 n q (mDel n 2 (mDd q id))
def mTk1 (n : mRow) (q : Nat → Int32) (id : Int32) : mRow := mTk2 (mTkD (mCtl (mTkC n q (mDel n 3 (q 7))) q id)) q id
def mTick (n : mRow) (q : Nat → Int32) (id : Int32) : mRow := mTk1 (mTkB (mTkA n q)) q id
/-- what the ticks need of the row: a time, as many watches as there are places, watched signals -/
def mOk (n : mRow) : Prop := (0 ≤ n 640) ∧ ∃ W : Nat, W ≤ 4 ∧ n 660 = lN W ∧ ∀ j : Nat, j < 4 → vp_in (n (661 + 5 * j)).toInt32 10
theorem lN_of0 {t : Int64} (h : 0 ≤ t) : ∃ k : Nat, k < 2 ^ 63 ∧ t = lN k := pk_lOf (Int64.not_lt.mpr h)
theorem rem64 {k : Nat} (h : k < 2 ^ 63) : (lRem (lN k) 64).toInt32 = nI (k % 64) := by
  show (lN k - lN k / lN 64 * lN 64).toInt32 = _
  rw [pk_lRem h (by decide) (by decide), lN_i]
theorem at_in {sg : Int32} {t : Int64} (hsg : vp_in sg 10) (ht : 0 ≤ t) : vp_in ((64 * sg) + (lRem t 64).toInt32) 681 := by
  obtain ⟨j, hj, rfl⟩ := vp_in_of hsg (by decide)
  obtain ⟨k, hk, rfl⟩ := lN_of0 ht
  rw [rem64 hk, show (64 : Int32) = nI 64 from rfl, pk_mul, nI_add]
  exact vp_in_nI (by omega) (by decide)
theorem at_pl {sg : Int32} {t : Int64} (hsg : vp_in sg 10) (ht : 0 ≤ t) : ((64 * sg) + (lRem t 64).toInt32).toNatClampNeg < 640 := by
  obtain ⟨j, hj, rfl⟩ := vp_in_of hsg (by decide)
  obtain ⟨k, hk, rfl⟩ := lN_of0 ht
  rw [rem64 hk, show (64 : Int32) = nI 64 from rfl, pk_mul, nI_add, nI_clamp (by omega)]
  omega
theorem mRec_hi {n : mRow} {sg : Int32} {v : Int64} (hsg : vp_in sg 10) (ht : 0 ≤ n 640) {j : Nat} (hj : 640 ≤ j) : mRec n sg v j = n j := by
  unfold mRec
  exact pk_uLn (by have := at_pl hsg ht; omega)
theorem mOk_rec {n : mRow} {sg : Int32} {v : Int64} (hsg : vp_in sg 10) (h : mOk n) : mOk (mRec n sg v) := by
  obtain ⟨h1, W, h2, h3, h4⟩ := h
  refine ⟨by rw [mRec_hi hsg h1 (by decide)]; exact h1, W, h2, by rw [mRec_hi hsg h1 (by decide)]; exact h3, fun j hj => ?_⟩
  rw [mRec_hi hsg h1 (by omega)]; exact h4 j hj
theorem mOk_upd {n : mRow} {j : Nat} {v : Int64} (hj : 640 < j ∧ j < 660) (h : mOk n) : mOk (vp_updL n j v) := by
  obtain ⟨h1, W, h2, h3, h4⟩ := h
  refine ⟨by rw [pk_uLn (by omega)]; exact h1, W, h2, by rw [pk_uLn (by omega)]; exact h3, fun k hk => ?_⟩
  rw [pk_uLn (by omega)]; exact h4 k hk
theorem mOk_jud {n : mRow} {q : Nat → Int32} {mis : Int64} (h : mOk n) : mOk (mJud n q mis) := by
  unfold mJud mJud0 mJud1 mJud2
  have h1 : ∀ bd gd : Int64, mOk (vp_updL (vp_updL n 649 bd) 650 gd) := fun bd gd => mOk_upd (by decide) (mOk_upd (by decide) h)
  by_cases c : mJudT n q (if mJudB q mis = 0 then 0 else n 649 + 1) (if mJudB q mis = 0 then n 650 + 1 else 0) = 0
  · rw [if_pos c]; exact h1 _ _
  · rw [if_neg c]; exact mOk_upd (by decide) (mOk_upd (by decide) (mOk_upd (by decide) (h1 _ _)))
theorem mOk_ctl {n : mRow} {q : Nat → Int32} {id : Int32} (h : mOk n) : mOk (mCtl n q id) := by
  unfold mCtl mCtl1 mCtl2 mCtl3 mCtl4 mCtl5
  exact mOk_upd (by decide) (mOk_upd (by decide) (mOk_upd (by decide) (mOk_upd (by decide) h)))
theorem mOk_mea {n : mRow} (h : mOk n) : mOk (mMea n) := by
  unfold mMea mMea1
  exact mOk_upd (by decide) (mOk_upd (by decide) (mOk_upd (by decide) h))
theorem mOk_updW {n : mRow} {j c : Nat} {v : Int64} (hc : 1 ≤ c ∧ c ≤ 4) (h : mOk n) : mOk (vp_updL n (661 + 5 * j + c) v) := by
  obtain ⟨h1, W, h2, h3, h4⟩ := h
  refine ⟨by rw [pk_uLn (by omega)]; exact h1, W, h2, by rw [pk_uLn (by omega)]; exact h3, fun k hk => ?_⟩
  rw [pk_uLn (by omega)]; exact h4 k hk
theorem mOk_wat5 {n : mRow} {j : Nat} {v : Int64} (h : mOk n) : mOk (mWat5 n j v) := mOk_updW (c := 4) (by decide) (mOk_updW (c := 3) (by decide) h)
theorem mOk_wat3 {n : mRow} {j : Nat} {v : Int64} {first : Int32} (h : mOk n) : mOk (mWat3 n j v first) := mOk_updW (c := 2) (by decide) h
theorem mOk_wat4 {n : mRow} {j : Nat} {v : Int64} {first : Int32} (h : mOk n) : mOk (mWat4 n j v first) := by
  have h5 := mOk_wat5 (j := j) (v := v) h
  unfold mWat4
  refine mOk_updW (c := 1) (by decide) ?_
  by_cases c1 : first = 0
  · by_cases c2 : v ≤ n (661 + 5 * j + 3)
    · rw [if_pos c1, if_pos c2]; exact h
    · rw [if_pos c1, if_neg c2]; exact h5
  · rw [if_neg c1]; exact h5
theorem mOk_wat1 {n : mRow} {j : Nat} (h : mOk n) : mOk (mWat1 n j) := mOk_wat4 (mOk_wat3 h)
theorem mOk_watN : ∀ (k j : Nat) (n : mRow), mOk n → mOk (mWatN k j n)
  | 0, _, _, h => h
  | k + 1, j, n, h => by
    rw [mWatN_s]
    split
    · exact h
    · exact mOk_watN k (j + 1) _ (mOk_wat1 h)
theorem mOk_wat {n : mRow} (h : mOk n) : mOk (mWat n) := mOk_watN 5 0 n h
theorem wat_ix (j : Nat) : (661 : Int32) + 5 * nI j = nI (661 + 5 * j) := by
  rw [show (661 : Int32) = nI 661 from rfl, show (5 : Int32) = nI 5 from rfl, pk_mul, nI_add]
theorem wat_ix' (j c : Nat) : ((661 : Int32) + 5 * nI j) + nI c = nI (661 + 5 * j + c) := by rw [wat_ix, nI_add]
theorem ltW {W i : Nat} (h : ¬ lN W ≤ (nI i).toInt64) (hi : i < 2 ^ 31) (hW : W < 2 ^ 31) : i < W := by
  rw [nI_l hi, lN_le hW hi] at h; omega
theorem geW {W i : Nat} (h : lN W ≤ (nI i).toInt64) (hi : i < 2 ^ 31) (hW : W < 2 ^ 31) : W ≤ i := by
  rw [nI_l hi, lN_le hW hi] at h; exact h
theorem odd_ne (x : Int64) : ¬ 2 * x + 1 = 0 := by
  intro h
  have h1 := congrArg (fun z : Int64 => z.toBitVec.toNat % 2) h
  have h2 : (2 * x + 1).toBitVec.toNat % 2 = 1 := by
    rw [Int64.toBitVec_add, Int64.toBitVec_mul, BitVec.toNat_add, BitVec.toNat_mul]
    show ((2 * x.toBitVec.toNat) % 2 ^ 64 + 1) % 2 ^ 64 % 2 = 1
    omega
  rw [show (2 * x + 1).toBitVec.toNat % 2 = (0 : Int64).toBitVec.toNat % 2 from h1] at h2
  exact absurd h2 (by decide)
theorem vin_lit {n : Nat} (k : Nat) (hk : k < n) (hn : n < 2 ^ 31) {x : Int32} (e : x = nI k) : vp_in x n := by rw [e]; exact vp_in_nI hk hn
theorem l64_lt (x y : Int32) : x.toInt64 < y.toInt64 ↔ x < y := by
  rw [Int64.lt_iff_toInt_lt, Int32.toInt_toInt64, Int32.toInt_toInt64, Int32.lt_iff_toInt_lt]
theorem l64_le (x y : Int32) : x.toInt64 ≤ y.toInt64 ↔ x ≤ y := by
  rw [Int64.le_iff_toInt_le, Int32.toInt_toInt64, Int32.toInt_toInt64, Int32.le_iff_toInt_le]
theorem l64_inj (x y : Int32) : x.toInt64 = y.toInt64 ↔ x = y := by
  rw [← Int64.toInt_inj, Int32.toInt_toInt64, Int32.toInt_toInt64, Int32.toInt_inj]
theorem mIn_i (v lo hi : Int32) : mIn v.toInt64 lo.toInt64 hi.toInt64 = if v < lo then 0 else if hi < v then 0 else 1 := by
  unfold mIn
  simp only [l64_lt]
theorem mIn_eq (v lo hi : Int64) : mIn v lo hi = 0 ∨ mIn v lo hi = 1 := by
  unfold mIn
  by_cases c1 : v < lo
  · rw [if_pos c1]; exact Or.inl rfl
  · rw [if_neg c1]
    by_cases c2 : hi < v
    · rw [if_pos c2]; exact Or.inl rfl
    · rw [if_neg c2]; exact Or.inr rfl
theorem mIn_bit (v lo hi : Int64) : narrow .boolean (.int (mIn v lo hi)) = .int (mIn v lo hi) := isB_nar (mIn_eq v lo hi)
theorem i32_le_pred {x : Int32} (m : Int32) (n : Nat) (hm : m = nI n) (hn : n + 1 < 2 ^ 31) : m < x ↔ nI (n + 1) ≤ x := by
  subst hm
  rw [Int32.lt_iff_toInt_lt, Int32.le_iff_toInt_le, nI_toInt (by omega), nI_toInt (by omega)]
  omega
theorem mPar_eq (k : Int32) : mIn k.toInt64 0 14 = fPar k := by
  have h := mIn_i k 0 14
  have e : ((14 : Int32) < k) = ((15 : Int32) ≤ k) := propext (i32_le_pred 14 14 rfl (by decide))
  rw [show (0 : Int64) = (0 : Int32).toInt64 from rfl, show (14 : Int64) = (14 : Int32).toInt64 from rfl, h]
  unfold fPar
  simp only [e]
theorem mSig_eq (k : Int32) : mIn k.toInt64 0 9 = fSig k := by
  have h := mIn_i k 0 9
  have e : ((9 : Int32) < k) = ((10 : Int32) ≤ k) := propext (i32_le_pred 9 9 rfl (by decide))
  rw [show (0 : Int64) = (0 : Int32).toInt64 from rfl, show (9 : Int64) = (9 : Int32).toInt64 from rfl, h]
  unfold fSig
  simp only [e]
