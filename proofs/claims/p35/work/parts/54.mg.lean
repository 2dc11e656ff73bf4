def mZeroN (n : mRow) : Nat → mRow
  | 0 => n
  | k + 1 => vp_updL (mZeroN n k) k 0
def mSetRow (n : mRow) (v : Int32) : mRow := vp_updL (vp_updL (vp_updL (vp_updL (vp_updL (vp_updL n 641 v.toInt64) 655 (n 641).toInt32.toInt64) 656 0) 657 0) 658 0) 659 0
def mAdv (q : Nat → Int32) (id : Int32) : Nat → mRow → mRow
  | 0, n => n
  | k + 1, n => mAdv q id k (mTick n q id)
theorem mAdv_s (q : Nat → Int32) (id : Int32) (k : Nat) (n : mRow) : mAdv q id (k + 1) n = mAdv q id k (mTick n q id) := rfl
def mClr (n : mRow) (sp : Int64) : mRow := vp_updL (mZeroN n 681) 641 sp
theorem t640_rec {n : mRow} {sg : Int32} {v : Int64} (hsg : vp_in sg 10) (h : mOk n) : mRec n sg v 640 = n 640 := mRec_hi hsg h.1 (Nat.le_refl _)
theorem t640_jud2 (n : mRow) (bd gd : Int64) (turn : Int32) : mJud2 n bd gd turn 640 = n 640 := by
  unfold mJud2
  by_cases c : turn = 0
  · rw [if_pos c, pk_uLn (by decide), pk_uLn (by decide)]
  · rw [if_neg c, pk_uLn (by decide), pk_uLn (by decide), pk_uLn (by decide), pk_uLn (by decide), pk_uLn (by decide)]
theorem t640_jud (n : mRow) (q : Nat → Int32) (mis : Int64) : mJud n q mis 640 = n 640 := t640_jud2 n _ _ _
theorem t640_ctl (n : mRow) (q : Nat → Int32) (id : Int32) : mCtl n q id 640 = n 640 := by
  unfold mCtl mCtl1 mCtl2 mCtl3 mCtl4 mCtl5
  rw [pk_uLn (by decide), pk_uLn (by decide), pk_uLn (by decide), pk_uLn (by decide)]
theorem t640_mea (n : mRow) : mMea n 640 = n 640 := by
  unfold mMea mMea1
  rw [pk_uLn (by decide), pk_uLn (by decide), pk_uLn (by decide)]
theorem t640_wat5 (n : mRow) (j : Nat) (v : Int64) : mWat5 n j v 640 = n 640 := by
  unfold mWat5
  rw [pk_uLn (by omega), pk_uLn (by omega)]
theorem t640_wat3 (n : mRow) (j : Nat) (v : Int64) (first : Int32) : mWat3 n j v first 640 = n 640 := by
  unfold mWat3
  rw [pk_uLn (by omega)]
theorem t640_wat4 (n : mRow) (j : Nat) (v : Int64) (first : Int32) : mWat4 n j v first 640 = n 640 := by
  unfold mWat4
  rw [pk_uLn (by omega)]
  by_cases c1 : first = 0
  · by_cases c2 : v ≤ n (661 + 5 * j + 3)
    · rw [if_pos c1, if_pos c2]
    · rw [if_pos c1, if_neg c2]; exact t640_wat5 n j v
  · rw [if_neg c1]; exact t640_wat5 n j v
theorem t640_wat1 (n : mRow) (j : Nat) : mWat1 n j 640 = n 640 := by
  unfold mWat1 mWat2
  rw [t640_wat4, t640_wat3]
theorem t640_watN : ∀ (k j : Nat) (n : mRow), mWatN k j n 640 = n 640
  | 0, _, _ => rfl
  | k + 1, j, n => by
    rw [mWatN_s]
    by_cases c : n 660 ≤ (nI j).toInt64
    · rw [if_pos c]
    · rw [if_neg c, t640_watN k (j + 1), t640_wat1]
theorem t640_wat (n : mRow) : mWat n 640 = n 640 := t640_watN 5 0 n
def mKp2 (n m : mRow) : Prop := mOk m ∧ m 640 = n 640
theorem mKp2.tr {n m o : mRow} (h : mKp2 n m) (h2 : mOk m → mKp2 m o) : mKp2 n o := ⟨(h2 h.1).1, (h2 h.1).2.trans h.2⟩
theorem kp_rec {n : mRow} (k : Nat) (hk : k < 10) (x : Int32) (hx : x = nI k) (v : Int64) (h : mOk n) : mKp2 n (mRec n x v) := ⟨mOk_rec (vin_lit k hk (by decide) hx) h, t640_rec (vin_lit k hk (by decide) hx) h⟩
theorem kp_upd {n : mRow} (j : Nat) (hj : 640 < j ∧ j < 660) (v : Int64) (h : mOk n) : mKp2 n (vp_updL n j v) := ⟨mOk_upd hj h, pk_uLn (by omega)⟩
theorem kp_E {n : mRow} (h : mOk n) : mKp2 n (mTkE n) :=
  mKp2.tr (m := mTkE5 (mTkE4 (mTkE3 (mTkE2 (mTkE1 (mTkE0 n))))))
   (mKp2.tr (m := mTkE4 (mTkE3 (mTkE2 (mTkE1 (mTkE0 n)))))
    (mKp2.tr (m := mTkE3 (mTkE2 (mTkE1 (mTkE0 n))))
     (mKp2.tr (m := mTkE2 (mTkE1 (mTkE0 n)))
      (mKp2.tr (m := mTkE1 (mTkE0 n))
       (mKp2.tr (m := mTkE0 n) (kp_rec 0 (by decide) 0 rfl _ h) (fun h => kp_rec 1 (by decide) 1 rfl _ h))
       (fun h => kp_rec 4 (by decide) 4 rfl _ h))
      (fun h => kp_rec 5 (by decide) 5 rfl _ h))
     (fun h => kp_rec 6 (by decide) 6 rfl _ h))
    (fun h => kp_rec 7 (by decide) 7 rfl _ h))
   (fun h => kp_rec 9 (by decide) 9 rfl _ h)
theorem kp_C {n : mRow} (q : Nat → Int32) (d : Int64) (h : mOk n) : mKp2 n (mTkC n q d) :=
  ((kp_upd 653 (by decide) d h).tr (fun h => kp_upd 646 (by decide) _ h)).tr (fun h => ⟨mOk_jud h, t640_jud _ _ _⟩)
theorem kp_A {n : mRow} (q : Nat → Int32) (h : mOk n) : mKp2 n (mTkA n q) := (kp_upd 652 (by decide) _ h).tr (fun h => kp_rec 3 (by decide) 3 rfl _ h)
theorem kp_B {n : mRow} (h : mOk n) : mKp2 n (mTkB n) := kp_rec 8 (by decide) 8 rfl _ h
theorem kp_D {n : mRow} (h : mOk n) : mKp2 n (mTkD n) := kp_rec 2 (by decide) 2 rfl _ h
theorem mOk_tkF {n : mRow} (q : Nat → Int32) (v : Int64) {N : Nat} (h : mOk n) (hN : n 640 = lN N) (h2 : N < 2 ^ 31) : mOk (mTkF n q v) ∧ mTkF n q v 640 = lN (N + 1) := by
  have e : mTkF n q v 640 = lN (N + 1) := by
    unfold mTkF
    rw [pk_uLs, hN]; exact lN_1 N
  refine ⟨?_, e⟩
  have h1 : mOk (vp_updL (vp_updL n 644 (mSteps (n 644) (mFloor ((q 2).toInt64 * (v + n 642)) 1000) (1000 - q 3))) 645 (mSteps (n 645) (mFloor ((q 5).toInt64 * n 651) 1000) (1000 - q 6))) := mOk_upd (by decide) (mOk_upd (by decide) h)
  obtain ⟨-, k, hk, h3, h4⟩ := h1
  refine ⟨by rw [e, show (0 : Int64) = lN 0 from rfl, pk_lLE (by decide) (by omega)]; omega, k, hk, ?_, fun j hj => ?_⟩
  · unfold mTkF; rw [pk_uLn (by decide)]; exact h3
  · unfold mTkF; rw [pk_uLn (by omega)]; exact h4 j hj
theorem mOk_tick {n : mRow} (q : Nat → Int32) (id : Int32) {N : Nat} (h : mOk n) (hN : n 640 = lN N) (h2 : N < 2 ^ 31) : mOk (mTick n q id) ∧ mTick n q id 640 = lN (N + 1) := by
  have h1 := (kp_A q h).tr (fun h => kp_B h)
  have h2' := h1.tr (fun h => kp_C q (mDel (mTkB (mTkA n q)) 3 (q 7)) h)
  have h3 := h2'.tr (fun h => (⟨mOk_ctl h, t640_ctl _ _ _⟩ : mKp2 _ (mCtl _ q id)))
  have h4 := h3.tr (fun h => kp_D h)
  have h5 := h4.tr (fun h => kp_E h)
  have h6 := h5.tr (fun h => (⟨mOk_mea h, t640_mea _⟩ : mKp2 _ (mMea _)))
  have h7 := h6.tr (fun h => (⟨mOk_wat h, t640_wat _⟩ : mKp2 _ (mWat _)))
  exact mOk_tkF q _ h7.1 (h7.2.trans hN) h2
theorem mZeroN_at (f : mRow) : ∀ k j : Nat, mZeroN f k j = if j < k then 0 else f j
  | 0, _ => rfl
  | k + 1, j => by
    show vp_updL (mZeroN f k) k 0 j = _
    rcases Nat.lt_trichotomy j k with q | q | q
    · rw [pk_uLn (by omega), mZeroN_at f k j, if_pos q, if_pos (by omega)]
    · subst q; rw [pk_uLs, if_pos (by omega)]
    · rw [pk_uLn (by omega), mZeroN_at f k j, if_neg (by omega), if_neg (by omega)]
theorem mOk_ext {n m : mRow} (h : ∀ j : Nat, 640 ≤ j → j < 681 → m j = n j) (hn : mOk n) : mOk m := by
  obtain ⟨h1, wn, h2, h3, h4⟩ := hn
  refine ⟨by rw [h 640 (by decide) (by decide)]; exact h1, wn, h2, by rw [h 660 (by decide) (by decide)]; exact h3, fun j hj => ?_⟩
  rw [h (661 + 5 * j) (by omega) (by omega)]; exact h4 j hj
theorem lN_subsub (t : Int64) (i : Nat) : (t - lN i) - 1 = t - lN (i + 1) := by
  rw [← lN_1, Int64.sub_sub]
