/-! SIMULATION: what would come -/
theorem s_ahead {x : Xst} {μ : Mst} (h : REL x μ) (t s : Int32) : rAhead x t s = jAhead μ t s := by
  obtain ⟨hS, hC, hT, ⟨N, hN, hL⟩, hK, hM⟩ := h
  have e : mIn t.toInt64 1 500 = if t < 1 then 0 else if 500 < t then 0 else 1 := mIn_i t 1 500
  unfold rAhead jAhead
  rw [e]
  by_cases c : t < 1
  · rw [if_pos c, if_pos c, if_pos rfl]
  · rw [if_neg c, if_neg c]
    by_cases c2 : 500 < t
    · rw [if_pos c2, if_pos c2, if_pos rfl]
    · rw [if_neg c2, if_neg c2, if_neg i32_10]
      by_cases c3 : fSig s = 0
      · rw [if_pos c3, if_pos c3]
      · rw [if_neg c3, if_neg c3]
        obtain ⟨j, hj, rfl⟩ := vp_in_of (fSig_in c3) (by decide)
        obtain ⟨-, t2, -⟩ := rngT' c c2
        have ad := LR_adv hS t.toNatClampNeg N (fLoopCopy (xTrial x) (xLoop x)) (mNow μ) (LR_copy hL (fun _ _ => rfl)) (by omega)
        rw [hM.2.2, nI_clamp (by omega), mPres_at ad.2.2.2.2.1.1 hj]
/-- aside and back -/
theorem aside_at (μ : Mst) {j : Nat} (hj : j < 681) : mAsideL μ j = mNow μ j := by unfold mAsideL; rw [mCpL_at, if_pos hj]
theorem asideP_at (μ : Mst) {j : Nat} (hj : j < 15) : mAsideP μ j = mPar μ j := by unfold mAsideP; rw [mCpI_at, if_pos hj]
theorem REL_put {x : Xst} {μ : Mst} {A n : mRow} {AQ q : Nat → Int32} (h : REL x μ) (hn : ∀ j : Nat, j < 681 → n j = mNow μ j) (hq : ∀ j : Nat, j < 15 → q j = mPar μ j) : REL x (mPut_par (mPut_now (mPut_parAside (mPut_aside μ A) AQ) n) q) := by
  obtain ⟨hS, hC, hT, hL, hK, hM⟩ := h
  exact ⟨⟨hS.1, fun k hk => (hS.2 k hk).trans (hq k hk).symm⟩, hC, hT, rLp_row hL hn, hK, rm_par (rm_now (rm_parAside (rm_aside hM _) _) _) _⟩
theorem REL_aside {x : Xst} {μ : Mst} (h : REL x μ) (n : mRow) (q : Nat → Int32) : REL x (hAside μ n q) := by
  unfold hAside
  exact REL_put h (fun j hj => by rw [mCpL_at, if_pos hj, aside_at μ hj]) (fun j hj => by rw [mCpI_at, if_pos hj, asideP_at μ hj])
/-- the class's own rooms for trials may be anything -/
def xSame (x y : Xst) : Prop := xSet y = xSet x ∧ xChg y = xChg x ∧ xTxt y = xTxt x ∧ xLoop y = xLoop x ∧ xFst y = xFst x ∧ xSnd y = xSnd x ∧ xCnt y = xCnt x
theorem REL_same {x y : Xst} {μ : Mst} (h : REL x μ) (e : xSame x y) : REL y μ := by
  obtain ⟨e1, e2, e3, e4, e5, e6, e7⟩ := e
  unfold REL
  rw [e1, e2, e3, e4, e5, e6, e7]; exact h
theorem s_aheadS {x : Xst} {μ : Mst} (h : REL x μ) (t s : Int32) : REL (gAhead x t s) (hAhead μ t s) := by
  have e : mIn t.toInt64 1 500 = if t < 1 then 0 else if 500 < t then 0 else 1 := mIn_i t 1 500
  unfold gAhead hAhead
  rw [e]
  by_cases c : t < 1
  · rw [if_pos c, if_pos c, if_pos rfl]; exact h
  · rw [if_neg c, if_neg c]
    by_cases c2 : 500 < t
    · rw [if_pos c2, if_pos c2, if_pos rfl]; exact h
    · rw [if_neg c2, if_neg c2, if_neg i32_10]
      by_cases c3 : fSig s = 0
      · rw [if_pos c3, if_pos c3]; exact h
      · rw [if_neg c3, if_neg c3]
        exact REL_same (REL_aside h _ _) ⟨rfl, rfl, rfl, rfl, rfl, rfl, rfl⟩
/-! the sum of errors of a gain -/
def setE (σ : Lop) (z : Int64) : Lop := lPut_section σ (sPut_errorSum (lSec σ) z)
theorem setE_1 (σ : Lop) (z : Int64) (v : Sett) (m p : Int32) : fTick1 (setE σ z) v m p = setE (fTick1 σ v m p) z := by
  unfold fTick1
  have e : ∀ q : Nat → Int32, lSetP (setE σ z) q = setE (lSetP σ q) z := fun _ => rfl
  rw [e]
  have k : ∀ (τ : Lop) (b g r t : Int32), fJudge2 (setE τ z) b g r t = setE (fJudge2 τ b g r t) z := by
    intro τ b g r t
    unfold fJudge2
    split
    · split <;> rfl
    · rfl
  exact k _ _ _ _ _
theorem setE_2 (τ : Lop) (z : Int64) (v : Sett) (id : Int32) : fTick2 (setE τ z) v id = setE (fTick2 τ v id) z := by
  unfold fTick2
  rw [show lPres (setE τ z) = lPres τ from rfl]
  generalize fCtl (lPres τ) v id = q
  rfl
theorem setE_3 (τ : Lop) (z : Int64) : fTick3 (setE τ z) = setE (fTick3 τ) z := by
  unfold fTick3
  rw [show lPres (setE τ z) = lPres τ from rfl, show lNow (setE τ z) = lNow τ from rfl, show lRecs (setE τ z) = lRecs τ from rfl]
  generalize fKeep (lNow τ) (lPres τ) (lRecs τ) = q
  rfl
theorem setE_sec (s : Sec) (z : Int64) (a b c : Int32) : fSecSee (sPut_errorSum s z) a b c = sPut_errorSum (fSecSee s a b c) (z + (kAbs (a - b)).toInt64) := rfl
theorem setE_4 (τ : Lop) (z : Int64) (u0 : Int32) : fTick4 (setE τ z) u0 = setE (fTick4 τ u0) (z + (kAbs (lPres τ 0 - lPres τ 1)).toInt64) := by
  unfold fTick4
  rw [show lPres (setE τ z) = lPres τ from rfl, show lNow (setE τ z) = lNow τ from rfl, show lWat (setE τ z) = lWat τ from rfl, show lSec (setE τ z) = sPut_errorSum (lSec τ) z from rfl, setE_sec]
  generalize fWsee (lWat τ) (lPres τ) (lNow τ) = q
  generalize fSecSee (lSec τ) (lPres τ 0) (lPres τ 1) (lPres τ 2 - u0) = r
  generalize (z + (kAbs (lPres τ 0 - lPres τ 1)).toInt64) = y
  rfl
theorem setE_m (τ : Lop) (z : Int64) (v : Sett) : fMove (setE τ z) v = setE (fMove τ v) z := by
  unfold fMove
  rfl
theorem fMove_p (σ : Lop) (v : Sett) {j : Nat} (h3 : j ≠ 3) (h8 : j ≠ 8) : lPres (fMove σ v) j = lPres σ j := by
  have e : ∀ i : Int64, fYx (lPres σ) v i j = lPres σ j := fun _ => by unfold fYx; rw [pk_un h3, pk_un h8]
  unfold fMove
  exact e _
theorem setE_tick (σ : Lop) (z : Int64) (v : Sett) (id : Int32) : fTick (setE σ z) v id = setE (fTick σ v id) (z + (kAbs (lPres (fTick σ v id) 0 - lPres (fTick σ v id) 1)).toInt64) := by
  unfold fTick
  rw [show lPres (setE σ z) = lPres σ from rfl, show lNow (setE σ z) = lNow σ from rfl, show lSeed (setE σ z) = lSeed σ from rfl, show lRecs (setE σ z) = lRecs σ from rfl, setE_1]
  generalize fTick1 σ v (lPres σ 8 + fNoise (lNow σ) (lSeed σ) (fGet v 14)) (fDelay (lNow σ) (lRecs σ) 3 (lPres σ 3) (fGet v 7)) = τ
  rw [setE_2, setE_3]
  generalize fTick3 (fTick2 τ v id) = ρ
  rw [setE_4, setE_m]
  have p0 : lPres (fMove (fTick4 ρ (lPres σ 2)) v) 0 = lPres ρ 0 := fMove_p (fTick4 ρ (lPres σ 2)) v (by decide) (by decide)
  have p1 : lPres (fMove (fTick4 ρ (lPres σ 2)) v) 1 = lPres ρ 1 := fMove_p (fTick4 ρ (lPres σ 2)) v (by decide) (by decide)
  rw [p0, p1]
theorem errS_adv (v : Sett) : ∀ (T : Nat) (σ : Lop) (z : Int64), sErr (lSec (fAdv v T (setE σ z))) = fErrS v T σ z
  | 0, _, _ => rfl
  | T + 1, σ, z => by
    rw [fAdv_s, fErrS_s, setE_tick]
    exact errS_adv v T _ _
theorem LR_err0 {σ : Lop} {n : mRow} {N : Nat} (h : LR σ n N) : LR (setE σ 0) (vp_updL n 656 0) N := by
  obtain ⟨h1, h2, h3, h4, ⟨h5, h6, h7, h8⟩, ⟨x1, x2, x3, x4, x5⟩, h10, h11, h12⟩ := h
  have rest : ∀ j : Nat, j ≠ 656 → vp_updL n 656 0 j = n j := fun j a => pk_uLn a
  refine ⟨h1, (rest 640 (by decide)).trans h2, by rw [rest 642 (by decide)]; exact h3, by rw [rest 643 (by decide)]; exact h4, ⟨SP_ign h5 (by decide), h6, by rw [rest 649 (by decide)]; exact h7, by rw [rest 650 (by decide)]; exact h8⟩, ⟨pk_uLs, by rw [rest 657 (by decide)]; exact x2, by rw [rest 658 (by decide)]; exact x3, by rw [rest 659 (by decide)]; exact x4, by rw [rest 641 (by decide), rest 655 (by decide)]; exact x5⟩, ?_, fun s hs t a b => by rw [rest _ (by omega)]; exact h11 s hs t a b, mOk_upd (by decide) h12⟩
  obtain ⟨W, w1, w2, w3, w4⟩ := h10
  exact ⟨W, w1, w2, (rest 660 (by decide)).trans w3, fun j hj => wP_ext (w4 j hj) rfl rfl rfl rfl (rest _ (by omega)) (rest _ (by omega)) (rest _ (by omega)) (rest _ (by omega)) (rest _ (by omega))⟩
theorem gain_ok {v : Nat → Int32} (hv : pOk v) {g : Nat} (hg : g ≤ 20000) : pOk (upd v 0 (nI g)) := by
  intro k hk
  by_cases c : k = 0
  · subst c
    rw [pk_us, nI_toInt (by omega), show (pLeast 0).toInt = 0 from by decide +kernel, show (pGreatest 0).toInt = 20000 from by decide +kernel]
    omega
  · rw [pk_un c]; exact hv k hk
theorem err_eq {x : Xst} {μ : Mst} (h : REL x μ) {g T : Nat} (hg : g ≤ 20000) (hT : T ≤ 1000) (n : mRow) (q : Nat → Int32) : xErr x (nI g) T = mGainN n (mAsideL μ) (mGainQ q (mAsideP μ) (nI g)) 0 T 656 := by
  obtain ⟨hS, -, -, ⟨N, hN, hL⟩, -⟩ := h
  have k0 : vp_in (0 : Int32) 15 := vp_in_nI (n := 0) (by decide) (by decide)
  have ev : xErrV x (nI g) = upd (va_cpy (xSet x) (xTs x) 0 0 15) 0 (nI g) := fSet_in k0
  have hR : RS (xErrV x (nI g)) (mGainQ q (mAsideP μ) (nI g)) := by
    rw [ev]
    unfold mGainQ
    refine ⟨gain_ok (pOk_ext hS.1 (fun k hk => cpy15 _ _ hk)) hg, fun k hk => ?_⟩
    by_cases c : k = 0
    · rw [c, pk_us, pk_us]
    · rw [pk_un c, pk_un c, cpy15 _ _ hk, mCpI_at, if_pos hk, asideP_at μ hk]; exact hS.2 k hk
  have hrow : LR (setE (fLoopCopy (xTrial x) (xLoop x)) 0) (vp_updL (mCpL n (mAsideL μ) 681) 656 0) N := LR_err0 (LR_copy hL (fun j hj => by rw [mCpL_at, if_pos hj, aside_at μ hj]))
  have ad := LR_adv hR T N _ _ hrow (by omega)
  have e656 := ad.2.2.2.2.2.1.1
  unfold mGainN
  rw [e656, errS_adv]
  rfl
theorem xErrX_same (x : Xst) (g : Int32) (T : Nat) : xSame x (xErrX x g T) := ⟨rfl, rfl, rfl, rfl, rfl, rfl, rfl⟩
theorem best_rel {μ : Mst} {T : Nat} (hT : T ≤ 1000) : ∀ (k j : Nat) (b : Int32) (le : Int64) (x : Xst) (n : mRow) (q : Nat → Int32), REL x μ → 1 ≤ j → j ≤ 21 → (fBestN T k j b le x).1 = (mBGN (mAsideL μ) (mAsideP μ) 0 T k j b le n q).1 ∧ xSame x (fBestN T k j b le x).2
  | 0, j, b, le, x, n, q, _, _, _ => ⟨rfl, rfl, rfl, rfl, rfl, rfl, rfl, rfl⟩
  | k + 1, j, b, le, x, n, q, h, h1, h2 => by
    rw [fBestN_s, mBGN_s]
    have e5 : ((5000 : Int32) < nI (250 * j)) = (5000 < 250 * j) := propext (nI_ltI (a := 5000) (b := 250 * j) (by decide) (by omega))
    simp only [e5]
    by_cases c : 5000 < 250 * j
    · rw [if_pos c, if_pos c]; exact ⟨rfl, rfl, rfl, rfl, rfl, rfl, rfl, rfl⟩
    · rw [if_neg c, if_neg c]
      have n0 : ¬ nI (250 * j) = 0 := nI_ne0 (by omega) (by omega)
      rw [if_neg n0, if_neg n0, err_eq h (g := 250 * j) (by omega) hT n q]
      have sm := xErrX_same x (nI (250 * j)) T
      by_cases c2 : le ≤ mGainN n (mAsideL μ) (mGainQ q (mAsideP μ) (nI (250 * j))) 0 T 656
      · rw [if_pos c2, if_pos c2, if_pos c2]
        obtain ⟨r1, r2⟩ := best_rel hT k (j + 1) b le (xErrX x (nI (250 * j)) T) (mGainN n (mAsideL μ) (mGainQ q (mAsideP μ) (nI (250 * j))) 0 T) (mGainQ q (mAsideP μ) (nI (250 * j))) (REL_same h sm) (by omega) (by omega)
        exact ⟨r1, by obtain ⟨a1, a2, a3, a4, a5, a6, a7⟩ := r2; exact ⟨a1, a2, a3, a4, a5, a6, a7⟩⟩
      · rw [if_neg c2, if_neg c2, if_neg c2]
        obtain ⟨r1, r2⟩ := best_rel hT k (j + 1) (nI (250 * j)) (mGainN n (mAsideL μ) (mGainQ q (mAsideP μ) (nI (250 * j))) 0 T 656) (xErrX x (nI (250 * j)) T) (mGainN n (mAsideL μ) (mGainQ q (mAsideP μ) (nI (250 * j))) 0 T) (mGainQ q (mAsideP μ) (nI (250 * j))) (REL_same h sm) (by omega) (by omega)
        exact ⟨r1, by obtain ⟨a1, a2, a3, a4, a5, a6, a7⟩ := r2; exact ⟨a1, a2, a3, a4, a5, a6, a7⟩⟩
theorem s_best {x : Xst} {μ : Mst} (h : REL x μ) (t : Int32) : rBest x t = jBest μ t ∧ REL (gBest x t) (hBest μ t) := by
  have e : mIn t.toInt64 1 100 = if t < 1 then 0 else if 100 < t then 0 else 1 := mIn_i t 1 100
  unfold rBest jBest gBest hBest
  rw [e]
  by_cases c : t < 1
  · rw [if_pos c, if_pos c, if_pos c, if_pos rfl, if_pos rfl]; exact ⟨rfl, h⟩
  · rw [if_neg c, if_neg c, if_neg c]
    by_cases c2 : t ≤ 100
    · rw [if_pos c2, if_pos c2, if_neg (Int32.not_lt.mpr c2), if_neg i32_10, if_neg i32_10]
      obtain ⟨-, t2, -⟩ := rngT100 c c2
      generalize t.toNatClampNeg = T at t2 ⊢
      have hT : T ≤ 1000 := by omega
      have sm := xErrX_same x 0 T
      have e0 : xErr x 0 T = mGainN (mNow μ) (mAsideL μ) (mGainQ (mPar μ) (mAsideP μ) 0) 0 T 656 := err_eq h (g := 0) (by decide) hT (mNow μ) (mPar μ)
      obtain ⟨r1, r2⟩ := best_rel hT 21 1 0 (mGainN (mNow μ) (mAsideL μ) (mGainQ (mPar μ) (mAsideP μ) 0) 0 T 656) (xErrX x 0 T) (mGainN (mNow μ) (mAsideL μ) (mGainQ (mPar μ) (mAsideP μ) 0) 0 T) (mGainQ (mPar μ) (mAsideP μ) 0) (REL_same h sm) (by omega) (by omega)
      have em : mBG μ T = mBGN (mAsideL μ) (mAsideP μ) 0 T 21 1 0 (mGainN (mNow μ) (mAsideL μ) (mGainQ (mPar μ) (mAsideP μ) 0) 0 T 656) (mGainN (mNow μ) (mAsideL μ) (mGainQ (mPar μ) (mAsideP μ) 0) 0 T) (mGainQ (mPar μ) (mAsideP μ) 0) := by
        have hid : mIdeal μ = 0 := h.2.2.2.2.2.2.2
        unfold mBG
        rw [hid, mBGN_s, Nat.mul_zero, show nI 0 = (0 : Int32) from rfl, if_neg (show ¬ (5000 : Int32) < 0 by decide), if_pos rfl, if_pos rfl]
      unfold fBest
      rw [e0, em]
      refine ⟨r1, ?_⟩
      refine REL_aside (REL_same h ?_) _ _
      obtain ⟨a1, a2, a3, a4, a5, a6, a7⟩ := r2
      exact ⟨a1, a2, a3, a4, a5, a6, a7⟩
    · rw [if_neg c2, if_neg c2, if_pos (Int32.not_le.mp c2), if_pos rfl, if_pos rfl]; exact ⟨rfl, h⟩
/-! the loop and the ideal one -/
theorem abs_eq {y z : Int32} (hy : -1000000 ≤ y.toInt ∧ y.toInt ≤ 1000000) (hz : -1000000 ≤ z.toInt ∧ z.toInt ≤ 1000000) : mSize (y.toInt64 - z.toInt64) = (kAbs (y - z)).toInt64 ∧ 0 ≤ (kAbs (y - z)).toInt ∧ (kAbs (y - z)).toInt ≤ 2000000 := by
  have e : (y - z).toInt = y.toInt - z.toInt := zi_sub (by omega) (by omega)
  obtain ⟨a1, a2⟩ := z_abs (x := y - z) (by rw [e]; omega)
  rw [← zw_sub (by omega) (by omega), ← a1, a2, e]
  refine ⟨rfl, ?_⟩
  split <;> omega
/-- the y of the i-th row of a path -/
theorem path_at (q : Nat → Int32) : ∀ (k i : Nat) (P n : mRow) (j : Nat), (mPathN q 0 k i P n).1 j = if i ≤ j ∧ j < i + k then (mAdv q 0 (j - i) n) 644 else P j
  | 0, i, P, n, j => by rw [if_neg (by omega)]; rfl
  | k + 1, i, P, n, j => by
    rw [mPathN_s, path_at q k (i + 1) _ _ j]
    by_cases c : i + 1 ≤ j ∧ j < i + 1 + k
    · rw [if_pos c, if_pos (by omega), show j - i = (j - (i + 1)) + 1 by omega, mAdv_s]
    · rw [if_neg c]
      by_cases d : j = i
      · rw [d, pk_uLs, if_pos (by omega), Nat.sub_self]; rfl
      · rw [pk_uLn d, if_neg (by omega)]
theorem far_rel {v w q : Nat → Int32} {P : mRow} {J : Nat} (hQ : RS v q) (hW : QR w q 1) : ∀ (k i : Nat) (σ τ : Lop) (n nP : mRow) (g : Int32), LR σ nP (J + i) → LR τ n i → i + k ≤ 1000 → J ≤ 1000 → (∀ d : Nat, d ≤ k → P (i + d + J) = (mAdv q 0 d nP) 644) → 0 ≤ g.toInt → g.toInt ≤ 2000000 →
    ∀ most : Int64, g.toInt64 = (if mSize (P (i + J) - n 644) ≤ most then most else mSize (P (i + J) - n 644)) → (mFarN q P J (k + 1) i most n).1 = ((fIdN v w k σ τ g).1).toInt64
  | 0, i, σ, τ, n, nP, g, _, _, _, _, _, _, _, most, hg => by
    rw [mFarN_s]
    exact hg.symm
  | k + 1, i, σ, τ, n, nP, g, hσ, hτ, hk, hJ, hP, g0, g1, most, hg => by
    rw [mFarN_s, ← hg, fIdN_s]
    have t1 := st_tick hσ (by omega) (Or.inl rfl) (QR_of hQ)
    have t2 := st_tick hτ (by omega) (Or.inr rfl) hW
    obtain ⟨y1, y2, y3⟩ := t1.2.2.2.2.1.1 8 (by decide)
    obtain ⟨z1, z2, z3⟩ := t2.2.2.2.2.1.1 8 (by decide)
    have y1 : mTick nP q 0 644 = (lPres (fTick σ v 0) 8).toInt64 := y1
    have z1 : mTick n q 1 644 = (lPres (fTick τ w 1) 8).toInt64 := z1
    have pe : P (i + 1 + J) = mTick nP q 0 644 := hP 1 (by omega)
    obtain ⟨b1, b2, b3⟩ := abs_eq (y := lPres (fTick σ v 0) 8) (z := lPres (fTick τ w 1) 8) ⟨y2, y3⟩ ⟨z2, z3⟩
    have key : (kMax g (fDiff (fTick σ v 0) (fTick τ w 1))).toInt64 = (if mSize (P (i + 1 + J) - mTick n q 1 644) ≤ g.toInt64 then g.toInt64 else mSize (P (i + 1 + J) - mTick n q 1 644)) ∧ 0 ≤ (kMax g (fDiff (fTick σ v 0) (fTick τ w 1))).toInt ∧ (kMax g (fDiff (fTick σ v 0) (fTick τ w 1))).toInt ≤ 2000000 := by
      rw [pe, y1, z1, b1]
      unfold fDiff
      generalize kAbs (lPres (fTick σ v 0) 8 - lPres (fTick τ w 1) 8) = D at b2 b3 ⊢
      unfold kMax
      simp only [l64_le]
      by_cases c : g < D
      · rw [if_pos c, if_neg (Int32.not_le.mpr c)]; exact ⟨rfl, b2, b3⟩
      · rw [if_neg c, if_pos (Int32.not_lt.mp c)]; exact ⟨rfl, g0, g1⟩
    exact far_rel hQ hW k (i + 1) (fTick σ v 0) (fTick τ w 1) (mTick n q 1) (mTick nP q 0) _ (by rw [show J + (i + 1) = (J + i) + 1 by omega]; exact t1) t2 (by omega) hJ (fun d hd => by rw [show i + 1 + d + J = i + (d + 1) + J by omega, hP (d + 1) (by omega), mAdv_s]) key.2.1 key.2.2 _ key.1
theorem mAdv_add (q : Nat → Int32) (id : Int32) : ∀ (a b : Nat) (n : mRow), mAdv q id (a + b) n = mAdv q id b (mAdv q id a n)
  | 0, b, n => by rw [Nat.zero_add]; rfl
  | a + 1, b, n => by rw [show a + 1 + b = (a + b) + 1 by omega, mAdv_s, mAdv_s, mAdv_add q id a b]
theorem LR_clr (σ : Lop) (n : mRow) {r : Int32} (hr : -100000 ≤ r.toInt ∧ r.toInt ≤ 100000) : LR (fSetR (fBegin σ) r) (mClr n r.toInt64) 0 := by
  refine LR_row (LR_setR (LR_zero σ n) hr) (fun j hj => ?_)
  have z : mZeroN n 681 641 = 0 := by rw [mZeroN_at, if_pos (by decide)]
  unfold mClr mSetRow
  rw [z]
  by_cases c1 : j = 641
  · subst c1
    rw [pk_uLs, pk_uLn (by decide), pk_uLn (by decide), pk_uLn (by decide), pk_uLn (by decide), pk_uLn (by decide), pk_uLs]
  · rw [pk_uLn c1, mZeroN_at, if_pos hj]
    by_cases c6 : j = 659
    · subst c6; rw [pk_uLs]
    · rw [pk_uLn c6]
      by_cases c5 : j = 658
      · subst c5; rw [pk_uLs]
      · rw [pk_uLn c5]
        by_cases c4 : j = 657
        · subst c4; rw [pk_uLs]
        · rw [pk_uLn c4]
          by_cases c3 : j = 656
          · subst c3; rw [pk_uLs]
          · rw [pk_uLn c3]
            by_cases c2 : j = 655
            · subst c2; rw [pk_uLs]; rfl
            · rw [pk_uLn c2, pk_uLn c1, mZeroN_at, if_pos hj]
theorem prep_ok {x : Xst} {μ : Mst} (h : REL x μ) : RS (xPrepTs x) (mIdQ μ) ∧ QR (xPrepIs x) (mIdQ μ) 1 := by
  obtain ⟨hS, -⟩ := h
  have k14 : vp_in (14 : Int32) 15 := vp_in_nI (n := 14) (by decide) (by decide)
  have k4 : vp_in (4 : Int32) 15 := vp_in_nI (n := 4) (by decide) (by decide)
  have e1 : xPrepTs x = upd (va_cpy (xSet x) (xTs x) 0 0 15) 14 0 := fSet_in k14
  have e2 : xPrepIs x = upd (va_cpy (xPrepTs x) (xIs x) 0 0 15) 4 0 := fSet_in k4
  have p0 : ∀ (v : Nat → Int32) (j : Nat), pOk v → (j = 14 ∨ j = 4) → pOk (upd v j 0) := by
    intro v j hv hj k hk
    by_cases c : k = j
    · subst c
      rw [pk_us, zi0]
      rcases hj with rfl | rfl <;> decide +kernel
    · rw [pk_un c]; exact hv k hk
  have r1 : RS (xPrepTs x) (mIdQ μ) := by
    rw [e1]
    unfold mIdQ
    refine ⟨p0 _ 14 (pOk_ext hS.1 (fun k hk => cpy15 _ _ hk)) (Or.inl rfl), fun k hk => ?_⟩
    by_cases c : k = 14
    · rw [c, pk_us, pk_us]
    · rw [pk_un c, pk_un c, cpy15 _ _ hk]; exact hS.2 k hk
  refine ⟨r1, ?_⟩
  rw [e2]
  refine ⟨fun k hk hne => ?_, ?_, p0 _ 4 (pOk_ext r1.1 (fun k hk => cpy15 _ _ hk)) (Or.inr rfl)⟩
  · rw [pk_un hne, cpy15 _ _ hk]; exact r1.2 k hk
  · rw [pk_us]; rfl
theorem idl_eq {x : Xst} {μ : Mst} (h : REL x μ) {T J : Nat} (hT : T ≤ 200) (hJ : J ≤ 30) (eJ : mIdJ μ = J) : (mIdF μ T).1 = ((xIdl2 (xPrep x) J T).1).toInt64 := by
  obtain ⟨hR, hW⟩ := prep_ok h
  obtain ⟨-, -, -, ⟨N, hN, hL⟩, -, -, -, hid⟩ := h
  obtain ⟨sp, sp1, sp2⟩ := hL.2.2.2.2.1.1 0 (by decide)
  have sp : mNow μ 641 = (lPres (xLoop x) 0).toInt64 := sp
  have l1 := LR_clr (xTrial x) (mNow μ) ⟨sp1, sp2⟩
  rw [← sp] at l1
  have l2 := LR_adv hR J 0 _ _ l1 (by omega)
  rw [Nat.zero_add] at l2
  have eP : ∀ j : Nat, j < T + J + 1 → (mIdP μ T).1 j = (mAdv (mIdQ μ) 0 j (mClr (mNow μ) (mNow μ 641))) 644 := by
    intro j hj
    unfold mIdP
    rw [hid, eJ, path_at, if_pos (by omega), Nat.sub_zero]
  have l3 := LR_clr (xIdeal x) (mIdP μ T).2 ⟨sp1, sp2⟩
  rw [← sp] at l3
  unfold mIdF xIdl2 xIdl1
  rw [eJ]
  generalize (mIdP μ T).2 = n2 at l3 ⊢
  generalize (mIdP μ T).1 = P at eP ⊢
  show (mFarN (mIdQ μ) P J (T + 1) 0 0 (mClr n2 (mNow μ 641))).1 = ((fIdN (xPrepTs x) (xPrepIs x) T (fAdv (xPrepTs x) J (fSetR (fBegin (xTrial x)) (lPres (xLoop x) 0))) (fSetR (fBegin (xIdeal x)) (lPres (xLoop x) 0)) (fDiff (fAdv (xPrepTs x) J (fSetR (fBegin (xTrial x)) (lPres (xLoop x) 0))) (fSetR (fBegin (xIdeal x)) (lPres (xLoop x) 0)))).1).toInt64
  generalize fSetR (fBegin (xIdeal x)) (lPres (xLoop x) 0) = τ at l3 ⊢
  generalize fAdv (xPrepTs x) J (fSetR (fBegin (xTrial x)) (lPres (xLoop x) 0)) = σ at l2 ⊢
  obtain ⟨y1, y2, y3⟩ := l2.2.2.2.2.1.1 8 (by decide)
  obtain ⟨z1, z2, z3⟩ := l3.2.2.2.2.1.1 8 (by decide)
  have y1 : mAdv (mIdQ μ) 0 J (mClr (mNow μ) (mNow μ 641)) 644 = (lPres σ 8).toInt64 := y1
  have z1 : mClr n2 (mNow μ 641) 644 = (lPres τ 8).toInt64 := z1
  obtain ⟨b1, b2, b3⟩ := abs_eq (y := lPres σ 8) (z := lPres τ 8) ⟨y2, y3⟩ ⟨z2, z3⟩
  refine far_rel hR hW T 0 σ τ (mClr n2 (mNow μ 641)) (mAdv (mIdQ μ) 0 J (mClr (mNow μ) (mNow μ 641))) (fDiff σ τ) l2 l3 (by omega) (by omega) (fun d hd => ?_) b2 b3 0 ?_
  · rw [eP (0 + d + J) (by omega), show 0 + d + J = J + d by omega, mAdv_add]
  · rw [eP (0 + J) (by omega), show 0 + J = J by omega, y1, z1, b1]
    show (kAbs (lPres σ 8 - lPres τ 8)).toInt64 = _
    generalize kAbs (lPres σ 8 - lPres τ 8) = D at b2 ⊢
    by_cases c : D.toInt64 ≤ 0
    · rw [if_pos c]
      rw [zl_le, Int32.toInt_toInt64, zl0] at c
      rw [zl_eq, Int32.toInt_toInt64, zl0]; omega
    · rw [if_neg c]
theorem dead_ok {x : Xst} {μ : Mst} (h : REL x μ) : ∃ J : Nat, J ≤ 30 ∧ fGet (xSet x) 4 / 10 = nI J ∧ mPar μ 4 / 10 = nI J ∧ mIdJ μ = J ∧ (fGet (xSet x) 4 / 10).toNatClampNeg = J := by
  obtain ⟨hS, -⟩ := h
  obtain ⟨D, hD, e⟩ := nat_of (M := 300) (pR_4 hS.1) (by decide)
  have e2 : mPar μ 4 = nI D := by rw [← hS.2 4 (by decide)]; exact e
  have ed : nI D / 10 = nI (D / 10) := pk_div (by omega) (by decide) (by decide)
  refine ⟨D / 10, by omega, by rw [fG_4, e, ed], by rw [e2, ed], ?_, ?_⟩
  · unfold mIdJ; rw [e2, ed, nI_clamp (by omega)]
  · rw [fG_4, e, ed, nI_clamp (by omega)]
theorem REL_idl {x : Xst} {μ : Mst} (h : REL x μ) (P : mRow) : REL x (mPut_isIdeal (mPut_path μ P) 0) := by
  obtain ⟨hS, hC, hT, hL, hK, hM⟩ := h
  exact ⟨hS, hC, hT, hL, hK, rm_ideal (rm_path hM P)⟩
theorem s_ideal {x : Xst} {μ : Mst} (h : REL x μ) (t : Int32) : rIdeal x t = jIdeal μ t ∧ REL (gIdeal x t) (hIdeal μ t) := by
  have e : mIn t.toInt64 1 200 = if t < 1 then 0 else if 200 < t then 0 else 1 := mIn_i t 1 200
  unfold rIdeal jIdeal gIdeal hIdeal
  rw [e]
  by_cases c : t < 1
  · rw [if_pos c, if_pos c, if_pos c, if_pos rfl, if_pos rfl]; exact ⟨rfl, h⟩
  · rw [if_neg c, if_neg c, if_neg c]
    by_cases c2 : t ≤ 200
    · rw [if_pos c2, if_pos c2, if_neg (Int32.not_lt.mpr c2), if_neg i32_10, if_neg i32_10]
      have t2 : t.toNatClampNeg ≤ 200 := by
        obtain ⟨t1, -, -⟩ := rngT200 c c2
        rw [t1, show (200 : Int32) = nI 200 from rfl] at c2
        exact (nI_leI (Int32.toNatClampNeg_lt _) (by decide)).mp c2
      generalize t.toNatClampNeg = T at t2 ⊢
      obtain ⟨J, hJ, -, -, j3, j4⟩ := dead_ok h
      rw [j4, idl_eq h t2 hJ j3, Int32.toInt32_toInt64]
      exact ⟨rfl, REL_same (REL_aside (REL_idl h _) _ _) ⟨rfl, rfl, rfl, rfl, rfl, rfl, rfl⟩⟩
    · rw [if_neg c2, if_neg c2, if_pos (Int32.not_le.mp c2), if_pos rfl, if_pos rfl]; exact ⟨rfl, h⟩
