/-! SIMULATION, one tick, stage by stage -/
def pOk (v : Nat → Int32) : Prop := ∀ k : Nat, k < 15 → (pLeast k).toInt ≤ (v k).toInt ∧ (v k).toInt ≤ (pGreatest k).toInt
theorem pR_0 {v : Nat → Int32} (h : pOk v) : 0 ≤ (v 0).toInt ∧ (v 0).toInt ≤ 20000 := by have q := h 0 (by decide); rw [show (pLeast 0).toInt = 0 from by decide +kernel, show (pGreatest 0).toInt = 20000 from by decide +kernel] at q; exact q
theorem pR_1 {v : Nat → Int32} (h : pOk v) : 0 ≤ (v 1).toInt ∧ (v 1).toInt ≤ 20000 := by have q := h 1 (by decide); rw [show (pLeast 1).toInt = 0 from by decide +kernel, show (pGreatest 1).toInt = 20000 from by decide +kernel] at q; exact q
theorem pR_2 {v : Nat → Int32} (h : pOk v) : -5000 ≤ (v 2).toInt ∧ (v 2).toInt ≤ 5000 := by have q := h 2 (by decide); rw [show (pLeast 2).toInt = -5000 from by decide +kernel, show (pGreatest 2).toInt = 5000 from by decide +kernel] at q; exact q
theorem pR_3 {v : Nat → Int32} (h : pOk v) : 0 ≤ (v 3).toInt ∧ (v 3).toInt ≤ 999 := by have q := h 3 (by decide); rw [show (pLeast 3).toInt = 0 from by decide +kernel, show (pGreatest 3).toInt = 999 from by decide +kernel] at q; exact q
theorem pR_4 {v : Nat → Int32} (h : pOk v) : 0 ≤ (v 4).toInt ∧ (v 4).toInt ≤ 300 := by have q := h 4 (by decide); rw [show (pLeast 4).toInt = 0 from by decide +kernel, show (pGreatest 4).toInt = 300 from by decide +kernel] at q; exact q
theorem pR_5 {v : Nat → Int32} (h : pOk v) : -5000 ≤ (v 5).toInt ∧ (v 5).toInt ≤ 5000 := by have q := h 5 (by decide); rw [show (pLeast 5).toInt = -5000 from by decide +kernel, show (pGreatest 5).toInt = 5000 from by decide +kernel] at q; exact q
theorem pR_6 {v : Nat → Int32} (h : pOk v) : 0 ≤ (v 6).toInt ∧ (v 6).toInt ≤ 999 := by have q := h 6 (by decide); rw [show (pLeast 6).toInt = 0 from by decide +kernel, show (pGreatest 6).toInt = 999 from by decide +kernel] at q; exact q
theorem pR_7 {v : Nat → Int32} (h : pOk v) : 0 ≤ (v 7).toInt ∧ (v 7).toInt ≤ 300 := by have q := h 7 (by decide); rw [show (pLeast 7).toInt = 0 from by decide +kernel, show (pGreatest 7).toInt = 300 from by decide +kernel] at q; exact q
theorem pR_8 {v : Nat → Int32} (h : pOk v) : 0 ≤ (v 8).toInt ∧ (v 8).toInt ≤ 999 := by have q := h 8 (by decide); rw [show (pLeast 8).toInt = 0 from by decide +kernel, show (pGreatest 8).toInt = 999 from by decide +kernel] at q; exact q
theorem pR_9 {v : Nat → Int32} (h : pOk v) : -100000 ≤ (v 9).toInt ∧ (v 9).toInt ≤ 0 := by have q := h 9 (by decide); rw [show (pLeast 9).toInt = -100000 from by decide +kernel, show (pGreatest 9).toInt = 0 from by decide +kernel] at q; exact q
theorem pR_10 {v : Nat → Int32} (h : pOk v) : 0 ≤ (v 10).toInt ∧ (v 10).toInt ≤ 100000 := by have q := h 10 (by decide); rw [show (pLeast 10).toInt = 0 from by decide +kernel, show (pGreatest 10).toInt = 100000 from by decide +kernel] at q; exact q
theorem pR_11 {v : Nat → Int32} (h : pOk v) : 1 ≤ (v 11).toInt ∧ (v 11).toInt ≤ 200000 := by have q := h 11 (by decide); rw [show (pLeast 11).toInt = 1 from by decide +kernel, show (pGreatest 11).toInt = 200000 from by decide +kernel] at q; exact q
theorem pR_12 {v : Nat → Int32} (h : pOk v) : 0 ≤ (v 12).toInt ∧ (v 12).toInt ≤ 100000 := by have q := h 12 (by decide); rw [show (pLeast 12).toInt = 0 from by decide +kernel, show (pGreatest 12).toInt = 100000 from by decide +kernel] at q; exact q
theorem pR_13 {v : Nat → Int32} (h : pOk v) : 1 ≤ (v 13).toInt ∧ (v 13).toInt ≤ 50 := by have q := h 13 (by decide); rw [show (pLeast 13).toInt = 1 from by decide +kernel, show (pGreatest 13).toInt = 50 from by decide +kernel] at q; exact q
theorem pR_14 {v : Nat → Int32} (h : pOk v) : 0 ≤ (v 14).toInt ∧ (v 14).toInt ≤ 1000 := by have q := h 14 (by decide); rw [show (pLeast 14).toInt = 0 from by decide +kernel, show (pGreatest 14).toInt = 1000 from by decide +kernel] at q; exact q
theorem fGet_n (v : Sett) (k : Nat) (hk : k < 15) : fGet v (nI k) = v k := by
  unfold fGet fPar
  rw [if_neg (nI_pos (by omega)), if_neg (show ¬ (15 : Int32) ≤ nI k from nI_ge (a := k) (b := 15) hk (by decide)), if_neg (by decide), nI_clamp (by omega)]
theorem fG_0 (v : Sett) : fGet v 0 = v 0 := fGet_n v 0 (by decide)
theorem fG_1 (v : Sett) : fGet v 1 = v 1 := fGet_n v 1 (by decide)
theorem fG_2 (v : Sett) : fGet v 2 = v 2 := fGet_n v 2 (by decide)
theorem fG_3 (v : Sett) : fGet v 3 = v 3 := fGet_n v 3 (by decide)
theorem fG_4 (v : Sett) : fGet v 4 = v 4 := fGet_n v 4 (by decide)
theorem fG_5 (v : Sett) : fGet v 5 = v 5 := fGet_n v 5 (by decide)
theorem fG_6 (v : Sett) : fGet v 6 = v 6 := fGet_n v 6 (by decide)
theorem fG_7 (v : Sett) : fGet v 7 = v 7 := fGet_n v 7 (by decide)
theorem fG_8 (v : Sett) : fGet v 8 = v 8 := fGet_n v 8 (by decide)
theorem fG_9 (v : Sett) : fGet v 9 = v 9 := fGet_n v 9 (by decide)
theorem fG_10 (v : Sett) : fGet v 10 = v 10 := fGet_n v 10 (by decide)
theorem fG_11 (v : Sett) : fGet v 11 = v 11 := fGet_n v 11 (by decide)
theorem fG_12 (v : Sett) : fGet v 12 = v 12 := fGet_n v 12 (by decide)
theorem fG_13 (v : Sett) : fGet v 13 = v 13 := fGet_n v 13 (by decide)
theorem fG_14 (v : Sett) : fGet v 14 = v 14 := fGet_n v 14 (by decide)
/-- the parameters of a tick on both sides -/
def QR (v q : Nat → Int32) (id : Int32) : Prop := (∀ k : Nat, k < 15 → k ≠ 4 → v k = q k) ∧ v 4 = mDd q id ∧ pOk v
/-- the noise -/
theorem z_noise {N : Nat} {sd a : Int32} (hN : N < 1000000) (ha : 0 ≤ a.toInt ∧ a.toInt ≤ 1000) : mNz1 ((7919 * lN N + 6151 * sd.toInt64) + 1) a = (fNoise (nI N) sd a).toInt64 ∧ -3000 ≤ (fNoise (nI N) sd a).toInt ∧ (fNoise (nI N) sd a).toInt ≤ 1000 := by
  have e2 : (2 * a.toInt64).toInt = 2 * a.toInt := by
    rw [za_mul (by rw [Int32.toInt_toInt64, show (2 : Int64).toInt = 2 from rfl]; omega) (by rw [Int32.toInt_toInt64, show (2 : Int64).toInt = 2 from rfl]; omega), Int32.toInt_toInt64, show (2 : Int64).toInt = 2 from rfl]
  have e3 : (2 * a.toInt64 + 1).toInt = 2 * a.toInt + 1 := by
    rw [za_add (by rw [e2, zl1]; omega) (by rw [e2, zl1]; omega), e2, zl1]
  unfold fNoise mNz1
  rw [nI_l (by omega), if_pos (by rw [zl_le, e3, zl1]; omega)]
  generalize lRem (((7919 * lN N + 6151 * sd.toInt64) + 1) * ((7919 * lN N + 6151 * sd.toInt64) + 1)) 65521 = w
  have hr := z_rem (x := w) (y := 2 * a.toInt64 + 1) (by rw [e3]; omega) (by rw [e3]; omega)
  rw [e3] at hr
  have e4 : (lRem w (2 * a.toInt64 + 1) - a.toInt64).toInt = (lRem w (2 * a.toInt64 + 1)).toInt - a.toInt := by
    rw [za_sub (by rw [Int32.toInt_toInt64]; omega) (by rw [Int32.toInt_toInt64]; omega), Int32.toInt_toInt64]
  rw [zl_back (by rw [e4]; omega) (by rw [e4]; omega), zl_i (by rw [e4]; omega) (by rw [e4]; omega), e4]
  exact ⟨rfl, by omega, by omega⟩
/-- what the judging keeps -/
def LJ (σ : Lop) (n : mRow) (K : Nat) : Prop := SP (lPres σ) n ∧ (lPres σ 9 = 0 ∨ lPres σ 9 = 1) ∧ (n 649 = (lBad σ).toInt64 ∧ 0 ≤ (lBad σ).toInt ∧ (lBad σ).toInt ≤ K) ∧ (n 650 = (lGood σ).toInt64 ∧ 0 ≤ (lGood σ).toInt ∧ (lGood σ).toInt ≤ K)
theorem fJudge_rest (σ : Lop) (b p : Int32) : lNow (fJudge σ b p) = lNow σ ∧ lLoad (fJudge σ b p) = lLoad σ ∧ lSeed (fJudge σ b p) = lSeed σ ∧ lRecs (fJudge σ b p) = lRecs σ ∧ lSec (fJudge σ b p) = lSec σ ∧ lWat (fJudge σ b p) = lWat σ := by
  unfold fJudge fJudge2
  split <;> (try split) <;> exact ⟨rfl, rfl, rfl, rfl, rfl, rfl⟩
theorem fJudge_pres (σ : Lop) (b p : Int32) (s : Nat) (hs : s ≠ 9) : lPres (fJudge σ b p) s = lPres σ s := by
  unfold fJudge fJudge2
  split
  · split
    · rfl
    · exact pk_un hs
  · exact pk_un hs
theorem jud_rest (n : mRow) (q : Nat → Int32) (mis : Int64) (j : Nat) (h1 : j ≠ 648) (h2 : j ≠ 649) (h3 : j ≠ 650) : mJud n q mis j = n j := by
  have k : ∀ (bd gd : Int64) (tr : Int32), mJud2 n bd gd tr j = n j := by
    intro bd gd tr
    unfold mJud2
    split
    · rw [pk_uLn h3, pk_uLn h2]
    · rw [pk_uLn h3, pk_uLn h2, pk_uLn h1, pk_uLn h3, pk_uLn h2]
  exact k _ _ _
theorem st_judge {σ : Lop} {n : mRow} {q : Nat → Int32} {x lim pat : Int32} {K : Nat} (h : LJ σ n K) (hK : K < 1000000) (hx : -2147483648 < x.toInt) (h12 : q 12 = lim) (h13 : q 13 = pat) (hp : 1 ≤ pat.toInt ∧ pat.toInt ≤ 50) : LJ (fJudge σ (fLoud (kAbs x) lim) pat) (mJud n q x.toInt64) (K + 1) := by
  obtain ⟨hS, hM, ⟨b1, b2, b3⟩, ⟨g1, g2, g3⟩⟩ := h
  have eb : mJudB q x.toInt64 = fLoud (kAbs x) lim := by
    unfold mJudB fLoud
    rw [h12, ← (z_abs hx).1]
    simp only [l64_le]
  have hb : fLoud (kAbs x) lim = 0 ∨ fLoud (kAbs x) lim = 1 := by unfold fLoud; split <;> simp
  generalize fLoud (kAbs x) lim = isb at eb hb ⊢
  -- the counters
  have cB : (if isb = 0 then (0 : Int64) else n 649 + 1) = (fBad isb (lBad σ)).toInt64 ∧ 0 ≤ (fBad isb (lBad σ)).toInt ∧ (fBad isb (lBad σ)).toInt ≤ ((K + 1 : Nat) : Int) := by
    unfold fBad
    split
    · exact ⟨rfl, by rw [zi0]; omega, by rw [zi0]; omega⟩
    · rw [zw_add (by rw [zi1]; omega) (by rw [zi1]; omega), zi_add (by rw [zi1]; omega) (by rw [zi1]; omega), zi1, b1]
      exact ⟨rfl, by omega, by omega⟩
  have cG : (if isb = 0 then n 650 + 1 else (0 : Int64)) = (fGood isb (lGood σ)).toInt64 ∧ 0 ≤ (fGood isb (lGood σ)).toInt ∧ (fGood isb (lGood σ)).toInt ≤ ((K + 1 : Nat) : Int) := by
    unfold fGood
    split
    · rw [zw_add (by rw [zi1]; omega) (by rw [zi1]; omega), zi_add (by rw [zi1]; omega) (by rw [zi1]; omega), zi1, g1]
      exact ⟨rfl, by omega, by omega⟩
    · exact ⟨rfl, by rw [zi0]; omega, by rw [zi0]; omega⟩
  unfold mJud mJud0
  rw [eb, cB.1, cG.1]
  unfold fJudge mJud1
  obtain ⟨-, cB2, cB3⟩ := cB
  obtain ⟨-, cG2, cG3⟩ := cG
  generalize fBad isb (lBad σ) = bd at cB2 cB3 ⊢
  generalize fGood isb (lGood σ) = gd at cG2 cG3 ⊢
  have h9 := (hS 9 (by decide)).1
  have z0 : (0 : Int32).toInt64 = 0 := rfl
  have hS1 : SP (lPres σ) (vp_updL (vp_updL n 649 bd.toInt64) 650 gd.toInt64) := SP_ign (SP_ign hS (by decide)) (by decide)
  have keep : LJ (lNow σ, lLoad σ, lSeed σ, bd, gd, lPres σ, lRecs σ, lSec σ, lWat σ) (vp_updL (vp_updL n 649 bd.toInt64) 650 gd.toInt64) (K + 1) :=
    ⟨hS1, hM, ⟨by rw [pk_uLn (by decide), pk_uLs], cB2, cB3⟩, ⟨by rw [pk_uLs], cG2, cG3⟩⟩
  have turn : ∀ md : Int32, md = 0 ∨ md = 1 → ∀ w : Int64, w = md.toInt64 → LJ (lNow σ, lLoad σ, lSeed σ, 0, 0, upd (lPres σ) 9 md, lRecs σ, lSec σ, lWat σ) (vp_updL (vp_updL (vp_updL (vp_updL (vp_updL n 649 bd.toInt64) 650 gd.toInt64) 648 w) 649 0) 650 0) (K + 1) := by
    intro md hmd w hw
    refine ⟨SP_ign (SP_ign (SP_upd hS1 9 (by decide) hw ?_ ?_) (by decide)) (by decide), ?_, ⟨?_, ?_, ?_⟩, ⟨?_, ?_, ?_⟩⟩
    · rcases hmd with rfl | rfl <;> decide
    · rcases hmd with rfl | rfl <;> decide
    · show upd (lPres σ) 9 md 9 = 0 ∨ upd (lPres σ) 9 md 9 = 1
      rw [pk_us]; exact hmd
    · rw [pk_uLn (by decide), pk_uLs]; rfl
    · show 0 ≤ (0 : Int32).toInt; decide
    · show (0 : Int32).toInt ≤ _; rw [zi0]; omega
    · rw [pk_uLs]; rfl
    · show 0 ≤ (0 : Int32).toInt; decide
    · show (0 : Int32).toInt ≤ _; rw [zi0]; omega
  unfold mJudT fRej fTru
  rw [h13]
  rcases hM with m0 | m1
  · have n0 : n 648 = 0 := by rw [show n 648 = (lPres σ 9).toInt64 from h9, m0]; rfl
    rw [n0, m0, if_pos rfl, if_pos rfl, if_neg (show ¬ (0 : Int32) = 1 by decide)]
    simp only [l64_lt]
    by_cases c : bd < pat
    · rw [if_pos c]
      unfold fJudge2 mJud2
      rw [if_pos rfl, if_pos rfl, if_pos rfl]
      exact keep
    · rw [if_neg c]
      unfold fJudge2 mJud2
      rw [if_neg (show ¬ (1 : Int32) = 0 by decide), if_neg (show ¬ (1 : Int32) = 0 by decide), n0]
      exact turn 1 (Or.inr rfl) _ rfl
  · have n1 : n 648 = 1 := by rw [show n 648 = (lPres σ 9).toInt64 from h9, m1]; rfl
    have e2 : (2 : Int64) * pat.toInt64 = (2 * pat).toInt64 := by
      have ei : (2 * pat).toInt = 2 * pat.toInt := by
        rw [zi_mul (by rw [show (2 : Int32).toInt = 2 from rfl]; omega) (by rw [show (2 : Int32).toInt = 2 from rfl]; omega)]; rfl
      rw [zl_eq, Int32.toInt_toInt64, ei, za_mul (by rw [Int32.toInt_toInt64, show (2 : Int64).toInt = 2 from rfl]; omega) (by rw [Int32.toInt_toInt64, show (2 : Int64).toInt = 2 from rfl]; omega), Int32.toInt_toInt64]; rfl
    rw [n1, m1, if_neg (show ¬ (1 : Int64) = 0 by decide), if_neg (show ¬ (1 : Int32) = 0 by decide), if_pos rfl, e2]
    simp only [l64_lt]
    by_cases c : gd < 2 * pat
    · rw [if_pos c]
      unfold fJudge2 mJud2
      rw [if_pos rfl, if_pos rfl, if_pos rfl]
      exact keep
    · rw [if_neg c]
      unfold fJudge2 mJud2
      rw [if_pos rfl, if_neg (show ¬ (1 : Int32) = 0 by decide), if_neg (show ¬ (1 : Int32) = 0 by decide), n1]
      exact turn 0 (Or.inl rfl) _ rfl
/-- the output -/
theorem st_out {v q : Nat → Int32} {u : Int32} {w : Int64} (h9 : v 9 = q 9) (h10 : v 10 = q 10) (h11 : v 11 = q 11) (hv : pOk v) (hu : -100000 ≤ u.toInt ∧ u.toInt ≤ 100000) : fOut u w v = mRt (mClip w q) u.toInt64 q ∧ -100000 ≤ (fOut u w v).toInt ∧ (fOut u w v).toInt ≤ 100000 := by
  have r9 := pR_9 hv
  have r10 := pR_10 hv
  have r11 := pR_11 hv
  have T9 : (q 9).toInt64.toInt = (v 9).toInt := by rw [← h9, Int32.toInt_toInt64]
  have T10 : (q 10).toInt64.toInt = (v 10).toInt := by rw [← h10, Int32.toInt_toInt64]
  have T11 : (q 11).toInt64.toInt = (v 11).toInt := by rw [← h11, Int32.toInt_toInt64]
  have Tu : u.toInt64.toInt = u.toInt := Int32.toInt_toInt64 u
  have Ta : (u.toInt64 + (q 11).toInt64).toInt = u.toInt + (v 11).toInt := by rw [za_add (by rw [Tu, T11]; omega) (by rw [Tu, T11]; omega), Tu, T11]
  have Ts : (u.toInt64 - (q 11).toInt64).toInt = u.toInt - (v 11).toInt := by rw [za_sub (by rw [Tu, T11]; omega) (by rw [Tu, T11]; omega), Tu, T11]
  have c1 : fLim w (q 9).toInt64 (q 10).toInt64 = mClip w q ∧ -100000 ≤ (mClip w q).toInt ∧ (mClip w q).toInt ≤ 100000 := by
    unfold fLim kMinL kMaxL mClip
    simp only [zl_le, zl_lt, T9, T10]
    by_cases g1 : (v 9).toInt < w.toInt
    · rw [if_pos g1]
      by_cases g2 : w.toInt ≤ (v 10).toInt
      · rw [if_pos g2, if_neg (by omega), if_pos (by omega)]; exact ⟨rfl, by omega, by omega⟩
      · rw [if_neg g2, if_pos (by omega), T10]; exact ⟨rfl, by omega, by omega⟩
    · rw [if_neg g1, T9]
      rw [if_pos (show w.toInt ≤ (v 10).toInt by omega), if_neg (show ¬ (v 10).toInt < (v 9).toInt by omega)]
      by_cases g3 : (v 9).toInt ≤ w.toInt
      · rw [if_pos g3]; exact ⟨(zl_eq.mpr (by rw [T9]; omega)), by omega, by omega⟩
      · rw [if_neg g3, T9]; exact ⟨rfl, by omega, by omega⟩
  unfold fOut
  rw [fG_9, fG_10, fG_11, h9, h10, h11, c1.1]
  obtain ⟨-, k1, k2⟩ := c1
  generalize mClip w q = z at k1 k2 ⊢
  unfold fLim kMinL kMaxL mRt
  simp only [zl_le, zl_lt, Ta, Ts]
  by_cases g1 : u.toInt - (v 11).toInt < z.toInt
  · rw [if_pos g1]
    by_cases g2 : z.toInt ≤ u.toInt + (v 11).toInt
    · rw [if_pos g2, if_neg (by omega), if_pos (by omega)]; exact ⟨rfl, by omega, by omega⟩
    · rw [if_neg g2, if_pos (by omega), Ta]; exact ⟨rfl, by omega, by omega⟩
  · rw [if_neg g1, Ts]
    rw [if_pos (show z.toInt ≤ u.toInt + (v 11).toInt by omega), if_neg (show ¬ u.toInt + (v 11).toInt < u.toInt - (v 11).toInt by omega)]
    by_cases g3 : u.toInt - (v 11).toInt ≤ z.toInt
    · rw [if_pos g3]; exact ⟨(zl_eq.mpr (by rw [Ts]; omega)), by rw [Ts]; omega, by rw [Ts]; omega⟩
    · rw [if_neg g3, Ts]; exact ⟨rfl, by omega, by omega⟩
theorem held_eq (u w : Int64) (e : Int32) : fHeld u w e = mHoldB u w e.toInt64 := by
  have a1 : (0 ≤ e.toInt64) = (0 ≤ e) := propext (l64_le 0 e)
  have a2 : (0 < e.toInt64) = (0 < e) := propext (l64_lt 0 e)
  unfold fHeld mHoldB
  simp only [a1, a2]
/-- not held back: which of the three -/
theorem held_0 {u w : Int64} {e : Int32} (h : fHeld u w e = 0) : u.toInt = w.toInt ∨ (u.toInt < w.toInt ∧ e.toInt ≤ 0) ∨ (w.toInt < u.toInt ∧ 0 ≤ e.toInt) := by
  unfold fHeld at h
  simp only [zl_le, zi_le, zi_lt, zi0] at h
  by_cases c1 : w.toInt ≤ u.toInt
  · rw [if_pos c1] at h
    by_cases c2 : u.toInt ≤ w.toInt
    · exact Or.inl (by omega)
    · rw [if_neg c2] at h
      by_cases c3 : 0 ≤ e.toInt
      · exact Or.inr (Or.inr ⟨by omega, c3⟩)
      · rw [if_neg c3] at h; exact absurd h (by decide)
  · rw [if_neg c1] at h
    by_cases c3 : 0 < e.toInt
    · rw [if_pos c3] at h; exact absurd h (by decide)
    · exact Or.inr (Or.inl ⟨by omega, by omega⟩)
theorem st_ctl0 {p v q : Nat → Int32} {n : mRow} {kp ki fb : Int32} (hS : SP p n) (h9 : v 9 = q 9) (h10 : v 10 = q 10) (h11 : v 11 = q 11) (hv : pOk v) (hkp : 0 ≤ kp.toInt ∧ kp.toInt ≤ 20000) (hki : 0 ≤ ki.toInt ∧ ki.toInt ≤ 20000) (hf : -2003000 ≤ fb.toInt ∧ fb.toInt ≤ 2003000) :
    SP (fCtl0 p v kp.toInt64 ki.toInt64 (p 0 - fb)) (mCtl2 n q (n 641 - fb.toInt64) kp.toInt64 ki.toInt64) ∧ (∀ s : Nat, s ≠ 6 → s ≠ 2 → s ≠ 7 → fCtl0 p v kp.toInt64 ki.toInt64 (p 0 - fb) s = p s) ∧ mCtl2 n q (n 641 - fb.toInt64) kp.toInt64 ki.toInt64 657 = n 657 + mSize ((fCtl0 p v kp.toInt64 ki.toInt64 (p 0 - fb) 2).toInt64 - (p 2).toInt64) := by
  obtain ⟨s0, s0a, s0b⟩ := hS 0 (by decide)
  obtain ⟨s2, s2a, s2b⟩ := hS 2 (by decide)
  obtain ⟨s7, s7a, s7b⟩ := hS 7 (by decide)
  have s0 : n 641 = (p 0).toInt64 := s0
  have s2 : n 651 = (p 2).toInt64 := s2
  have s7 : n 647 = (p 7).toInt64 := s7
  have s0a : -100000 ≤ (p 0).toInt := s0a
  have s0b : (p 0).toInt ≤ 100000 := s0b
  have s2a : -100000 ≤ (p 2).toInt := s2a
  have s2b : (p 2).toInt ≤ 100000 := s2b
  have s7a : -43000000 ≤ (p 7).toInt := s7a
  have s7b : (p 7).toInt ≤ 43000000 := s7b
  have eE : (p 0 - fb).toInt = (p 0).toInt - fb.toInt := zi_sub (by omega) (by omega)
  have e64 : n 641 - fb.toInt64 = (p 0 - fb).toInt64 := by rw [s0, zw_sub (by omega) (by omega)]
  rw [e64]
  have hE : -2103000 ≤ (p 0 - fb).toInt ∧ (p 0 - fb).toInt ≤ 2103000 := by rw [eE]; omega
  generalize p 0 - fb = er at hE ⊢
  have bk := z_mulb (a := kp.toInt) (b := er.toInt) 20000 2103000 (by omega) (by omega)
  have bi := z_mulb (a := ki.toInt) (b := er.toInt) 20000 2103000 (by omega) (by omega)
  have sk := z_mulS (a := kp.toInt) (b := er.toInt)
  have si := z_mulS (a := ki.toInt) (b := er.toInt)
  have ek : (kp.toInt64 * er.toInt64).toInt = kp.toInt * er.toInt := by
    rw [za_mul (by rw [Int32.toInt_toInt64, Int32.toInt_toInt64]; omega) (by rw [Int32.toInt_toInt64, Int32.toInt_toInt64]; omega), Int32.toInt_toInt64, Int32.toInt_toInt64]
  have ei : (ki.toInt64 * er.toInt64).toInt = ki.toInt * er.toInt := by
    rw [za_mul (by rw [Int32.toInt_toInt64, Int32.toInt_toInt64]; omega) (by rw [Int32.toInt_toInt64, Int32.toInt_toInt64]; omega), Int32.toInt_toInt64, Int32.toInt_toInt64]
  obtain ⟨k1, k2⟩ := z_thou (x := kp.toInt64 * er.toInt64) (by rw [ek]; omega) (by rw [ek]; omega)
  obtain ⟨i1, i2⟩ := z_thou (x := ki.toInt64 * er.toInt64) (by rw [ei]; omega) (by rw [ei]; omega)
  rw [ek] at k2
  rw [ei] at i2
  unfold fCtl0 mCtl2
  rw [k1, i1, s7]
  generalize mFloor (kp.toInt64 * er.toInt64) 1000 = P at k2 ⊢
  generalize mFloor (ki.toInt64 * er.toInt64) 1000 = D at i2 ⊢
  have eJ : ((p 7).toInt64 + D).toInt = (p 7).toInt + D.toInt := by rw [za_add (by rw [Int32.toInt_toInt64]; omega) (by rw [Int32.toInt_toInt64]; omega), Int32.toInt_toInt64]
  generalize (p 7).toInt64 + D = J at eJ ⊢
  have eW : (P + J).toInt = P.toInt + J.toInt := za_add (by omega) (by omega)
  generalize P + J = Wn at eW ⊢
  unfold fCtl1 mCtl3
  obtain ⟨o1, o2, o3⟩ := st_out (w := Wn) (u := p 2) h9 h10 h11 hv ⟨s2a, s2b⟩
  rw [s2, ← o1]
  generalize fOut (p 2) Wn v = u at o2 o3 ⊢
  have u1 : u.toInt32.toInt64 = u := zl_back (by omega) (by omega)
  have u2 : u.toInt32.toInt = u.toInt := zl_i (by omega) (by omega)
  unfold fCtl2 mCtl4
  rw [← held_eq, s2]
  have hh := held_0 (u := u) (w := Wn) (e := er)
  have h01 : fHeld u Wn er = 0 ∨ ¬ fHeld u Wn er = 0 := Classical.em _
  generalize fHeld u Wn er = hd at hh h01 ⊢
  unfold fCtl3 mCtl5 mHold
  have S1 : SP (upd (upd p 6 er) 2 u.toInt32) (vp_updL (vp_updL n 654 er.toInt64) 651 u) := SP_upd (SP_upd hS 6 (by decide) rfl (by show -2103000 ≤ er.toInt; omega) (by show er.toInt ≤ 2103000; omega)) 2 (by decide) u1.symm (by show -100000 ≤ _; omega) (by show _ ≤ (100000 : Int); omega)
  rcases h01 with h0 | h0
  · have hJ : -43000000 ≤ J.toInt ∧ J.toInt ≤ 43000000 := by
      rcases hh h0 with a | ⟨a, b⟩ | ⟨a, b⟩
      · omega
      · have := sk.2 hkp.1 b
        have := si.2 hki.1 b
        omega
      · have := sk.1 hkp.1 b
        have := si.1 hki.1 b
        omega
    rw [if_pos h0, if_pos h0]
    refine ⟨SP_ign (SP_upd S1 7 (by decide) (zl_back (by omega) (by omega)).symm (by rw [zl_i (by omega) (by omega)]; show -43000000 ≤ _; omega) (by rw [zl_i (by omega) (by omega)]; show _ ≤ (43000000 : Int); omega)) (by decide), fun s a b c => ?_, ?_⟩
    · rw [pk_un c, pk_un b, pk_un a]
    · rw [pk_uLs, pk_un (by decide), pk_us, u1]
  · rw [if_neg h0, if_neg h0]
    refine ⟨SP_ign ?_ (by decide), fun s a b c => ?_, ?_⟩
    · intro t ht
      by_cases c : t = 7
      · subst c
        have := S1 7 (by decide)
        rw [show sIx 7 = 647 from rfl, pk_uLs]
        exact ⟨by rw [pk_un (by decide), pk_un (by decide), s7], this.2⟩
      · rw [pk_uLn (show sIx t ≠ 647 from fun q => c (sIx_inj t ht 7 (by decide) q))]
        exact S1 t ht
    · rw [pk_un b, pk_un a]
    · rw [pk_uLs, pk_us, u1]
theorem st_ctl {p v q : Nat → Int32} {n : mRow} {id : Int32} (hS : SP p n) (hM : p 9 = 0 ∨ p 9 = 1) (hid : id = 0 ∨ id = 1) (hQ : QR v q id) :
    SP (fCtl p v id) (mCtl n q id) ∧ (∀ s : Nat, s ≠ 6 → s ≠ 2 → s ≠ 7 → fCtl p v id s = p s) ∧ mCtl n q id 657 = n 657 + mSize ((fCtl p v id 2).toInt64 - (p 2).toInt64) := by
  obtain ⟨q1, -, q3⟩ := hQ
  have r0 := pR_0 q3
  have r1 := pR_1 q3
  have e0 := q1 0 (by decide) (by decide)
  have e1 := q1 1 (by decide) (by decide)
  have h9 := q1 9 (by decide) (by decide)
  have h10 := q1 10 (by decide) (by decide)
  have h11 := q1 11 (by decide) (by decide)
  obtain ⟨m1, m1a, m1b⟩ := hS 1 (by decide)
  obtain ⟨x3, x3a, x3b⟩ := hS 3 (by decide)
  obtain ⟨f5, f5a, f5b⟩ := hS 5 (by decide)
  have n9 : n 648 = (p 9).toInt64 := (hS 9 (by decide)).1
  have m1 : n 652 = (p 1).toInt64 := m1
  have x3 : n 645 = (p 3).toInt64 := x3
  have f5 : n 646 = (p 5).toInt64 := f5
  have m1a : -1003000 ≤ (p 1).toInt := m1a
  have m1b : (p 1).toInt ≤ 1003000 := m1b
  have x3a : -500000 ≤ (p 3).toInt := x3a
  have x3b : (p 3).toInt ≤ 500000 := x3b
  have f5a : -1503000 ≤ (p 5).toInt := f5a
  have f5b : (p 5).toInt ≤ 1503000 := f5b
  have half : ∀ (z : Int32) (k : Int32) (c : Int), k.toInt = c → c = 2 ∨ c = 4 → 0 ≤ z.toInt ∧ z.toInt ≤ 20000 → 0 ≤ (z / k).toInt ∧ (z / k).toInt ≤ 20000 := by
    intro z k c hk hc hz
    have hn : k ≠ -1 := by
      intro h; rw [h] at hk
      have : (-1 : Int32).toInt = -1 := rfl
      omega
    rw [Int32.toInt_div_of_ne_right z k hn, hk, Int.tdiv_eq_ediv_of_nonneg hz.1]
    rcases hc with rfl | rfl <;> omega
  have xf : (p 3 + p 5).toInt = (p 3).toInt + (p 5).toInt := zi_add (by omega) (by omega)
  have xf64 : n 645 + n 646 = (p 3 + p 5).toInt64 := by rw [x3, f5, zw_add (by omega) (by omega)]
  unfold fCtl mCtl mCtl1
  rw [fG_0, fG_1]
  rcases hM with h0 | h0 <;> rcases hid with rfl | rfl
  · rw [show mMod n 0 = 1 from by unfold mMod; rw [n9, h0]; rfl, show mFul n 0 = 1 from by unfold mFul; rw [n9, h0]; rfl, h0]
    have := st_ctl0 (kp := v 0) (ki := v 1) (fb := p 3 + p 5) hS h9 h10 h11 q3 r0 r1 (by omega)
    rw [show mFb 1 n = (p 3 + p 5).toInt64 from xf64, show mKp 1 q = (v 0).toInt64 from by rw [e0]; rfl, show mKi 1 q = (v 1).toInt64 from by rw [e1]; rfl]
    exact this
  · rw [show mMod n 1 = 0 from by unfold mMod; rw [n9, h0]; rfl, show mFul n 1 = 1 from by unfold mFul; rw [n9, h0]; rfl, h0]
    have := st_ctl0 (kp := v 0) (ki := v 1) (fb := p 1) hS h9 h10 h11 q3 r0 r1 (by omega)
    rw [show mFb 0 n = (p 1).toInt64 from m1, show mKp 1 q = (v 0).toInt64 from by rw [e0]; rfl, show mKi 1 q = (v 1).toInt64 from by rw [e1]; rfl]
    exact this
  · rw [show mMod n 0 = 0 from by unfold mMod; rw [n9, h0]; rfl, show mFul n 0 = 0 from by unfold mFul; rw [n9, h0]; rfl, h0]
    have := st_ctl0 (kp := v 0 / 2) (ki := v 1 / 4) (fb := p 1) hS h9 h10 h11 q3 (half _ 2 2 rfl (Or.inl rfl) r0) (half _ 4 4 rfl (Or.inr rfl) r1) (by omega)
    rw [show mFb 0 n = (p 1).toInt64 from m1, show mKp 0 q = (v 0 / 2).toInt64 from by rw [e0]; rfl, show mKi 0 q = (v 1 / 4).toInt64 from by rw [e1]; rfl]
    exact this
  · rw [show mMod n 1 = 0 from by unfold mMod; rw [n9, h0]; rfl, show mFul n 1 = 1 from by unfold mFul; rw [n9, h0]; rfl, h0]
    have := st_ctl0 (kp := v 0) (ki := v 1) (fb := p 1) hS h9 h10 h11 q3 r0 r1 (by omega)
    rw [show mFb 0 n = (p 1).toInt64 from m1, show mKp 1 q = (v 0).toInt64 from by rw [e0]; rfl, show mKi 1 q = (v 1).toInt64 from by rw [e1]; rfl]
    exact this
theorem ctl_rest (n : mRow) (q : Nat → Int32) (id : Int32) (j : Nat) (h1 : j ≠ 654) (h2 : j ≠ 651) (h3 : j ≠ 647) (h4 : j ≠ 657) : mCtl n q id j = n j := by
  unfold mCtl mCtl1 mCtl2 mCtl3 mCtl4 mCtl5
  rw [pk_uLn h4, pk_uLn h3, pk_uLn h2, pk_uLn h1]
/-- the records kept -/
theorem fKeepN_at {N : Nat} (hN : N < 1000000) (p r : Nat → Int32) : ∀ (k : Nat), k ≤ 10 → ∀ j : Nat, fKeepN (nI N) p r k j = if j % 64 = N % 64 ∧ j / 64 < k then p (j / 64) else r j
  | 0, _, j => by rw [if_neg (by omega)]; rfl
  | k + 1, hk, j => by
    show upd (fKeepN (nI N) p r k) ((nI k * 64) + kFmod (nI N) 64).toNatClampNeg (p k) j = _
    rw [kFmod64 N (by omega), show (64 : Int32) = nI 64 from rfl, pk_mul, nI_add, nI_clamp (by omega)]
    by_cases c : j = k * 64 + N % 64
    · rw [c, pk_us, if_pos (by omega), show (k * 64 + N % 64) / 64 = k by omega]
    · rw [pk_un c, fKeepN_at hN p r k (by omega) j]
      by_cases d : j % 64 = N % 64 ∧ j / 64 < k
      · rw [if_pos d, if_pos (by omega)]
      · rw [if_neg d, if_neg (by omega)]
