/-! a tick in pieces -/
def tkM (σ : Lop) (v : Sett) : Int32 := lPres σ 8 + fNoise (lNow σ) (lSeed σ) (fGet v 14)
def tkP (σ : Lop) (v : Sett) : Int32 := fDelay (lNow σ) (lRecs σ) 3 (lPres σ 3) (fGet v 7)
def tk1 (σ : Lop) (v : Sett) : Lop := fTick1 σ v (tkM σ v) (tkP σ v)
def tk2 (σ : Lop) (v : Sett) (id : Int32) : Nat → Int32 := fCtl (lPres (tk1 σ v)) v id
theorem tk1_now (σ : Lop) (v : Sett) : lNow (tk1 σ v) = lNow σ := fTick1_now ..
theorem tk1_rest (σ : Lop) (v : Sett) : lLoad (tk1 σ v) = lLoad σ ∧ lSeed (tk1 σ v) = lSeed σ ∧ lRecs (tk1 σ v) = lRecs σ ∧ lSec (tk1 σ v) = lSec σ ∧ lWat (tk1 σ v) = lWat σ ∧ ∀ s : Nat, s ≠ 1 → s ≠ 4 → s ≠ 5 → s ≠ 9 → lPres (tk1 σ v) s = lPres σ s := fTick1_rest σ v _ _
theorem tk_eq (σ : Lop) (v : Sett) (id : Int32) : fTick σ v id = fMove (fTick4 (fTick3 (lSetP (tk1 σ v) (tk2 σ v id))) (lPres σ 2)) v := rfl
theorem mv_pres (τ : Lop) (p : Nat → Int32) (u : Int32) (v : Sett) : lPres (fMove (fTick4 (fTick3 (lSetP τ p)) u) v) = fYx p v (fDelay (lNow τ) (fKeep (lNow τ) p (lRecs τ)) 2 (p 2) (fGet v 4) + lLoad τ).toInt64 := rfl
theorem mv_recs (τ : Lop) (p : Nat → Int32) (u : Int32) (v : Sett) : lRecs (fMove (fTick4 (fTick3 (lSetP τ p)) u) v) = fKeep (lNow τ) p (lRecs τ) := rfl
theorem mv_load (τ : Lop) (p : Nat → Int32) (u : Int32) (v : Sett) : lLoad (fMove (fTick4 (fTick3 (lSetP τ p)) u) v) = lLoad τ := rfl
theorem mv_sec (τ : Lop) (p : Nat → Int32) (u : Int32) (v : Sett) : lSec (fMove (fTick4 (fTick3 (lSetP τ p)) u) v) = fSecSee (lSec τ) (p 0) (p 1) (p 2 - u) := rfl
theorem mv_bad (τ : Lop) (p : Nat → Int32) (u : Int32) (v : Sett) : lBad (fMove (fTick4 (fTick3 (lSetP τ p)) u) v) = lBad τ := rfl
theorem mv_good (τ : Lop) (p : Nat → Int32) (u : Int32) (v : Sett) : lGood (fMove (fTick4 (fTick3 (lSetP τ p)) u) v) = lGood τ := rfl
theorem lsp (τ : Lop) (p : Nat → Int32) : lPres (lSetP τ p) = p := rfl
theorem tk_pres (σ : Lop) (v : Sett) (id : Int32) : lPres (fTick σ v id) = fYx (tk2 σ v id) v (fDelay (lNow σ) (fKeep (lNow σ) (tk2 σ v id) (lRecs σ)) 2 (tk2 σ v id 2) (fGet v 4) + lLoad σ).toInt64 := by
  rw [tk_eq, mv_pres, tk1_now, (tk1_rest σ v).1, (tk1_rest σ v).2.2.1]
theorem tk_recs (σ : Lop) (v : Sett) (id : Int32) : lRecs (fTick σ v id) = fKeep (lNow σ) (tk2 σ v id) (lRecs σ) := by
  rw [tk_eq, mv_recs, tk1_now, (tk1_rest σ v).2.2.1]
theorem tk_load (σ : Lop) (v : Sett) (id : Int32) : lLoad (fTick σ v id) = lLoad σ := by
  rw [tk_eq, mv_load, (tk1_rest σ v).1]
theorem tk_sec (σ : Lop) (v : Sett) (id : Int32) : lSec (fTick σ v id) = fSecSee (lSec σ) (tk2 σ v id 0) (tk2 σ v id 1) (tk2 σ v id 2 - lPres σ 2) := by
  rw [tk_eq, mv_sec, (tk1_rest σ v).2.2.2.1]
theorem tk_bad (σ : Lop) (v : Sett) (id : Int32) : lBad (fTick σ v id) = lBad (tk1 σ v) := by
  rw [tk_eq, mv_bad]
theorem tk_good (σ : Lop) (v : Sett) (id : Int32) : lGood (fTick σ v id) = lGood (tk1 σ v) := by
  rw [tk_eq, mv_good]
theorem tk_at (σ : Lop) (v : Sett) (id : Int32) {s : Nat} (h3 : s ≠ 3) (h8 : s ≠ 8) : lPres (fTick σ v id) s = tk2 σ v id s := by
  rw [tk_pres]
  unfold fYx
  rw [pk_un h3, pk_un h8]
theorem tk1_1 (σ : Lop) (v : Sett) : lPres (tk1 σ v) 1 = tkM σ v := by
  unfold tk1 fTick1
  rw [fJudge_pres _ _ _ _ (by decide)]
  rw [lsp, pk_un (by decide), pk_un (by decide), pk_us]
theorem tk1_4 (σ : Lop) (v : Sett) : lPres (tk1 σ v) 4 = tkP σ v := by
  unfold tk1 fTick1
  rw [fJudge_pres _ _ _ _ (by decide)]
  rw [lsp, pk_un (by decide), pk_us]
/-! the controller -/
def cW (v : Sett) (i e : Int32) : Int64 := fThou ((v 0).toInt64 * e.toInt64) + (i.toInt64 + fThou ((v 1).toInt64 * e.toInt64))
def cS (v : Sett) (i e : Int32) : Int64 := i.toInt64 + fThou ((v 1).toInt64 * e.toInt64)
def cU (v : Sett) (u i e : Int32) : Int32 := (fOut u (cW v i e) v).toInt32
def cN (v : Sett) (u i e : Int32) : Int32 := if fHeld (fOut u (cW v i e) v) (cW v i e) e = 0 then (cS v i e).toInt32 else i
def cX (v : Sett) (x u : Int32) : Int32 := fStep x.toInt64 (fThou ((v 5).toInt64 * u.toInt64)) (1000 - v 6).toInt64
theorem ctl_at {p : Nat → Int32} {v : Sett} {id : Int32} (hl : fLess (p 9) id = 0) {e : Int32} (he : p 0 - fFeed 0 id (p 1) (p 3) (p 5) = e) : fCtl p v id 2 = cU v (p 2) (p 7) e ∧ fCtl p v id 7 = cN v (p 2) (p 7) e ∧ ∀ s : Nat, s ≠ 2 → s ≠ 6 → s ≠ 7 → fCtl p v id s = p s := by
  have ek : fCtl p v id = fCtl3 p e (cS v (p 7) e) (fOut (p 2) (cW v (p 7) e) v) (fHeld (fOut (p 2) (cW v (p 7) e) v) (cW v (p 7) e) e) := by
    unfold fCtl
    rw [hl, he, fG_0, fG_1, show fProp 0 (v 0) = (v 0).toInt64 from if_pos rfl, show fInte 0 (v 1) = (v 1).toInt64 from if_pos rfl]
    rfl
  rw [ek]
  unfold cU cN fCtl3
  by_cases c : fHeld (fOut (p 2) (cW v (p 7) e) v) (cW v (p 7) e) e = 0
  · rw [if_pos c, if_pos c]
    refine ⟨by rw [pk_un (by decide), pk_us], pk_us, fun s h2 h6 h7 => by rw [pk_un h7, pk_un h2, pk_un h6]⟩
  · rw [if_neg c, if_neg c]
    refine ⟨pk_us, by rw [pk_un (by decide), pk_un (by decide)], fun s h2 h6 h7 => by rw [pk_un h2, pk_un h6]⟩
/-- the loop without dead time: x, i, u before tick t -/
def kC (v : Sett) (r : Int32) : Nat → Int32 × Int32 × Int32
  | 0 => (0, 0, 0)
  | t + 1 => (cX v (kC v r t).1 (cU v (kC v r t).2.2 (kC v r t).2.1 (r - (kC v r t).1)), cN v (kC v r t).2.2 (kC v r t).2.1 (r - (kC v r t).1), cU v (kC v r t).2.2 (kC v r t).2.1 (r - (kC v r t).1))
def kX (v : Sett) (r : Int32) (t : Nat) : Int32 := (kC v r t).1
def kI (v : Sett) (r : Int32) (t : Nat) : Int32 := (kC v r t).2.1
def kU (v : Sett) (r : Int32) (t : Nat) : Int32 := (kC v r t).2.2
theorem kC_s (v : Sett) (r : Int32) (t : Nat) : kC v r (t + 1) = (cX v (kC v r t).1 (cU v (kC v r t).2.2 (kC v r t).2.1 (r - (kC v r t).1)), cN v (kC v r t).2.2 (kC v r t).2.1 (r - (kC v r t).1), cU v (kC v r t).2.2 (kC v r t).2.1 (r - (kC v r t).1)) := rfl
theorem kU_s (v : Sett) (r : Int32) (t : Nat) : kU v r (t + 1) = cU v (kU v r t) (kI v r t) (r - kX v r t) := by
  unfold kU kI kX
  rw [kC_s]
theorem kI_s (v : Sett) (r : Int32) (t : Nat) : kI v r (t + 1) = cN v (kU v r t) (kI v r t) (r - kX v r t) := by
  unfold kU kI kX
  rw [kC_s]
theorem kX_s (v : Sett) (r : Int32) (t : Nat) : kX v r (t + 1) = cX v (kX v r t) (kU v r (t + 1)) := by
  unfold kU kX
  rw [kC_s]
theorem kX_0 (v : Sett) (r : Int32) : kX v r 0 = 0 := rfl
theorem kI_0 (v : Sett) (r : Int32) : kI v r 0 = 0 := rfl
theorem kU_0 (v : Sett) (r : Int32) : kU v r 0 = 0 := rfl
theorem fsr_pres (σ : Lop) (w : Int32) : lPres (fSetR σ w) = upd (lPres σ) 0 w := rfl
theorem fbg_pres (σ : Lop) : lPres (fBegin σ) = fZeroN (lPres σ) 10 := rfl
theorem kC_congr {v w : Sett} (h : ∀ k : Nat, k < 15 → k ≠ 4 → w k = v k) (r : Int32) : ∀ t : Nat, kC w r t = kC v r t
  | 0 => rfl
  | t + 1 => by
    have e0 := h 0 (by decide) (by decide)
    have e1 := h 1 (by decide) (by decide)
    have e5 := h 5 (by decide) (by decide)
    have e6 := h 6 (by decide) (by decide)
    have e9 := h 9 (by decide) (by decide)
    have e10 := h 10 (by decide) (by decide)
    have e11 := h 11 (by decide) (by decide)
    have eo : ∀ (u : Int32) (z : Int64), fOut u z w = fOut u z v := fun u z => by unfold fOut; rw [fG_9, fG_10, fG_11, fG_9, fG_10, fG_11, e9, e10, e11]
    have eW : ∀ i e : Int32, cW w i e = cW v i e := fun i e => by unfold cW; rw [e0, e1]
    have eS : ∀ i e : Int32, cS w i e = cS v i e := fun i e => by unfold cS; rw [e1]
    have eU : ∀ u i e : Int32, cU w u i e = cU v u i e := fun u i e => by unfold cU; rw [eo, eW]
    have eI : ∀ u i e : Int32, cN w u i e = cN v u i e := fun u i e => by unfold cN; rw [eo, eW, eS]
    have eX : ∀ x u : Int32, cX w x u = cX v x u := fun x u => by unfold cX; rw [e5, e6]
    rw [kC_s, kC_s, kC_congr h r t, eX, eI, eU]
/-! small facts -/
theorem noise0 (now seed : Int32) : fNoise now seed 0 = 0 := by
  unfold fNoise
  have e : (2 * (0 : Int32).toInt64 + 1 : Int64) = 1 := by decide
  rw [e, if_pos (by decide)]
  have e2 : ∀ x : Int64, lRem x 1 = 0 := fun x => by
    show x - x / 1 * 1 = 0
    rw [Int64.div_one, Int64.mul_one, Int64.sub_self]
  rw [e2]
  decide
theorem thou0 : fThou 0 = 0 := by decide
theorem step0 (w : Int64) : fStep 0 0 w = 0 := by
  unfold fStep
  rw [Int64.sub_self, Int64.mul_zero, thou0]
  decide
theorem i0_l : (0 : Int32).toInt64 = 0 := by decide
theorem del2_0 (a : Int32) (old : Int64) : fDel2 a.toInt64 old (nI 0) = a := by
  unfold fDel2
  have e1 : (10 - nI 0 : Int32).toInt64 = 10 := by decide
  have e2 : (nI 0).toInt64 = 0 := by decide
  rw [e1, e2, Int64.mul_zero, Int64.add_zero]
  have b := Int32.toInt_lt a
  have b2 := Int32.le_toInt a
  have ex : (a.toInt64 * 10).toInt = a.toInt * 10 := by
    rw [za_mul (by rw [Int32.toInt_toInt64, show (10 : Int64).toInt = 10 from rfl]; omega) (by rw [Int32.toInt_toInt64, show (10 : Int64).toInt = 10 from rfl]; omega), Int32.toInt_toInt64]
    rfl
  obtain ⟨t1, t2⟩ := z_tenth (x := a.toInt64 * 10) (by rw [ex]; omega) (by rw [ex]; omega)
  rw [t1]
  refine Int32.toInt_inj.mp ?_
  rw [zl_i (by rw [t2, ex]; omega) (by rw [t2, ex]; omega), t2, ex]
  omega
/-- a delay of whole ticks -/
theorem del_whole {N j s : Nat} {r : Nat → Int32} {v : Int32} (hN : N < 900000) (hj : j ≤ 30) (hs : s < 10) : fDelay (nI N) r (nI s) v (nI (10 * j)) = if j = 0 then v else if N < j then 0 else r (64 * s + (N - j) % 64) := by
  have e1 : nI (10 * j) / 10 = nI j := by
    have q := pk_div (a := 10 * j) (d := 10) (by omega) (by decide) (by decide)
    rw [show 10 * j / 10 = j by omega] at q
    exact q
  have e2 : iRem (nI (10 * j)) 10 = nI 0 := by
    have q := pk_rem (a := 10 * j) (d := 10) (by omega) (by decide) (by decide)
    rw [show 10 * j % 10 = 0 by omega] at q
    exact q
  unfold fDelay
  rw [e1, e2]
  unfold fDelNew
  by_cases c : j = 0
  · subst c
    rw [if_pos (show nI 0 = 0 from rfl), if_pos rfl, del2_0]
  · rw [if_neg (nI_ne0 (by omega) (by omega)), if_neg c, del2_0]
    by_cases d : N < j
    · rw [if_pos d, fRec_neg hs (pk_sneg (by omega) d)]
    · rw [if_neg d, pk_sub (by omega)]
      exact fRec_at hs (by omega) (by omega) (by omega)
theorem judge_quiet {σ : Lop} {pat : Int32} (h9 : lPres σ 9 = 0) (hp : 1 ≤ pat.toInt) : lPres (fJudge σ 0 pat) = lPres σ := by
  have hlt : (0 : Int32) < pat := by rw [zi_lt, zi0]; omega
  have e1 : fRej (lPres σ 9) (fBad 0 (lBad σ)) pat = 0 := by
    rw [h9]
    unfold fRej fBad
    rw [if_pos rfl, if_pos rfl, if_pos hlt]
  have e2 : fTru (lPres σ 9) (fGood 0 (lGood σ)) pat = 0 := by
    rw [h9]
    unfold fTru
    rw [if_neg (by decide)]
  unfold fJudge fJudge2
  rw [e1, e2, if_pos rfl, if_pos rfl]
theorem keep_at {N : Nat} (hN : N < 900000) (p r : Nat → Int32) {s : Nat} (hs : s < 10) : fKeep (nI N) p r (64 * s + N % 64) = p s := by
  show fKeepN (nI N) p r 10 _ = _
  rw [fKeepN_at (by omega) p r 10 (by decide), if_pos (by omega), show (64 * s + N % 64) / 64 = s by omega]
theorem keep_old {N t : Nat} (hN : N < 900000) (p r : Nat → Int32) {s : Nat} (h1 : t < N) (h2 : N ≤ t + 63) : fKeep (nI N) p r (64 * s + t % 64) = r (64 * s + t % 64) := by
  show fKeepN (nI N) p r 10 _ = _
  rw [fKeepN_at (by omega) p r 10 (by decide), if_neg (by have := mod_ne h1 h2; omega)]
/-! an exact model, whole dead times: the loop is the ideal one, later by the dead time -/
def EX (v : Sett) (j : Nat) : Prop := v 5 = v 2 ∧ v 6 = v 3 ∧ v 4 = nI (10 * j) ∧ v 7 = nI (10 * j) ∧ j ≤ 30 ∧ v 14 = 0 ∧ 0 ≤ (v 12).toInt ∧ 1 ≤ (v 13).toInt
def EA (σ : Lop) (v : Sett) (r : Int32) (j N : Nat) : Prop := lNow σ = nI N ∧ lLoad σ = 0 ∧ lPres σ 0 = r ∧ lPres σ 2 = kU v r N ∧ lPres σ 3 = kX v r N ∧ lPres σ 5 = 0 ∧ lPres σ 7 = kI v r N ∧ lPres σ 8 = (if N < j then 0 else kX v r (N - j)) ∧ lPres σ 9 = 0 ∧ lPres σ 4 = lPres σ 1 ∧ ∀ t : Nat, t < N → N ≤ t + 64 → lRecs σ (64 * 3 + t % 64) = kX v r t ∧ lRecs σ (64 * 2 + t % 64) = kU v r (t + 1)
theorem step_y {v : Sett} {j : Nat} (hv : EX v j) (y d : Int32) : fStep y.toInt64 (fThou ((fGet v 2).toInt64 * (d + 0).toInt64)) (1000 - fGet v 3).toInt64 = cX v y d := by
  obtain ⟨h5, h6, -⟩ := hv
  unfold cX
  rw [fG_2, fG_3, h5, h6, Int32.add_zero]
theorem cX_0 (v : Sett) : cX v 0 0 = 0 := by
  unfold cX
  rw [i0_l, Int64.mul_zero, thou0, step0]
theorem ea_tick {σ : Lop} {v : Sett} {r : Int32} {j N : Nat} (hv : EX v j) (h : EA σ v r j N) (hN : N < 800000) : EA (fTick σ v 0) v r j (N + 1) := by
  obtain ⟨h5, h6, h4, h7, hj, h14, h12, h13⟩ := id hv
  obtain ⟨a1, a2, a3, a4, a5, a6, a7, a8, a9, a10, a11⟩ := h
  -- the prediction is the process value
  have eP : tkP σ v = lPres σ 8 := by
    unfold tkP
    rw [fG_7, h7, a1, show fDelay (nI N) (lRecs σ) 3 (lPres σ 3) (nI (10 * j)) = _ from del_whole (s := 3) (by omega) hj (by decide), a8]
    by_cases c : j = 0
    · subst c
      rw [if_pos rfl, if_neg (by omega), a5]
      rfl
    · rw [if_neg c]
      by_cases d : N < j
      · rw [if_pos d, if_pos d]
      · rw [if_neg d, if_neg d]
        exact (a11 (N - j) (by omega) (by omega)).1
  have eM : tkM σ v = lPres σ 8 := by
    unfold tkM
    rw [fG_14, h14, noise0, Int32.add_zero]
  have e1 : lPres (tk1 σ v) = upd (upd (upd (lPres σ) 1 (lPres σ 8)) 4 (lPres σ 8)) 5 0 := by
    unfold tk1 fTick1
    rw [eM, eP, Int32.sub_self, fG_12, fG_13, a6, i0_l, step0, show kAbs 0 = 0 from by decide, show fLoud 0 (v 12) = 0 from if_pos (by rw [zi_le, zi0]; exact h12)]
    refine judge_quiet ?_ h13
    rw [lsp, pk_un (by decide), pk_un (by decide), pk_un (by decide)]
    exact a9
  have p1 : ∀ s : Nat, s ≠ 1 → s ≠ 4 → s ≠ 5 → lPres (tk1 σ v) s = lPres σ s := fun s q1 q4 q5 => by rw [e1, pk_un q5, pk_un q4, pk_un q1]
  have p5 : lPres (tk1 σ v) 5 = 0 := by rw [e1, pk_us]
  have hless : fLess (lPres (tk1 σ v) 9) 0 = 0 := by
    rw [p1 9 (by decide) (by decide) (by decide), a9]
    exact if_neg (by decide)
  have he : lPres (tk1 σ v) 0 - fFeed 0 0 (lPres (tk1 σ v) 1) (lPres (tk1 σ v) 3) (lPres (tk1 σ v) 5) = r - kX v r N := by
    have ef : fFeed 0 0 (lPres (tk1 σ v) 1) (lPres (tk1 σ v) 3) (lPres (tk1 σ v) 5) = lPres (tk1 σ v) 3 + lPres (tk1 σ v) 5 := by
      unfold fFeed
      rw [if_pos rfl, if_pos rfl]
    rw [ef, p1 0 (by decide) (by decide) (by decide), p1 3 (by decide) (by decide) (by decide), p5, a3, a5, Int32.add_zero]
  obtain ⟨c2, c7, cr⟩ := ctl_at (v := v) hless he
  rw [p1 2 (by decide) (by decide) (by decide), p1 7 (by decide) (by decide) (by decide), a4, a7] at c2 c7
  have c2 : tk2 σ v 0 2 = kU v r (N + 1) := c2.trans (kU_s v r N).symm
  have c7 : tk2 σ v 0 7 = kI v r (N + 1) := c7.trans (kI_s v r N).symm
  have cr : ∀ s : Nat, s ≠ 2 → s ≠ 6 → s ≠ 7 → tk2 σ v 0 s = lPres (tk1 σ v) s := cr
  have c3 : tk2 σ v 0 3 = kX v r N := by rw [cr 3 (by decide) (by decide) (by decide), p1 3 (by decide) (by decide) (by decide), a5]
  have c8 : tk2 σ v 0 8 = lPres σ 8 := by rw [cr 8 (by decide) (by decide) (by decide), p1 8 (by decide) (by decide) (by decide)]
  refine ⟨by rw [fTick_now, a1]; exact nI_1 N, (tk_load σ v 0).trans a2, ?_, ?_, ?_, ?_, ?_, ?_, ?_, ?_, ?_⟩
  · rw [tk_at σ v 0 (by decide) (by decide), cr 0 (by decide) (by decide) (by decide), p1 0 (by decide) (by decide) (by decide)]; exact a3
  · rw [tk_at σ v 0 (by decide) (by decide)]; exact c2
  · rw [tk_pres]
    unfold fYx
    rw [pk_us, fG_5, fG_6, c3, c2, kX_s]
    unfold cX
    rfl
  · rw [tk_at σ v 0 (by decide) (by decide), cr 5 (by decide) (by decide) (by decide)]; exact p5
  · rw [tk_at σ v 0 (by decide) (by decide)]; exact c7
  · rw [tk_pres]
    unfold fYx
    rw [pk_un (by decide), pk_us, a2, step_y hv, c8, fG_4, h4, a1, show fDelay (nI N) (fKeep (nI N) (tk2 σ v 0) (lRecs σ)) 2 (tk2 σ v 0 2) (nI (10 * j)) = _ from del_whole (s := 2) (by omega) hj (by decide), a8, c2]
    by_cases c : j = 0
    · subst c
      rw [if_pos rfl, if_neg (by omega), if_neg (by omega)]
      exact (kX_s v r N).symm
    · rw [if_neg c]
      by_cases d : N < j
      · rw [if_pos d, if_pos d, cX_0]
        by_cases g : N + 1 < j
        · rw [if_pos g]
        · rw [if_neg g, show N + 1 - j = 0 by omega]
          rfl
      · rw [if_neg d, if_neg d, if_neg (by omega), keep_old (by omega) _ _ (by omega) (by omega), (a11 (N - j) (by omega) (by omega)).2, show N + 1 - j = (N - j) + 1 by omega]
        exact (kX_s v r (N - j)).symm
  · rw [tk_at σ v 0 (by decide) (by decide), cr 9 (by decide) (by decide) (by decide), p1 9 (by decide) (by decide) (by decide)]; exact a9
  · rw [tk_at σ v 0 (by decide) (by decide), tk_at σ v 0 (by decide) (by decide), cr 4 (by decide) (by decide) (by decide), cr 1 (by decide) (by decide) (by decide), tk1_4, tk1_1, eP, eM]
  · intro t t1 t2
    rw [tk_recs, a1]
    rcases Nat.lt_or_ge t N with q | q
    · rw [keep_old (by omega) _ _ q (by omega), keep_old (by omega) _ _ q (by omega)]
      exact a11 t q (by omega)
    · have e : t = N := by omega
      subst e
      rw [keep_at (by omega) _ _ (by decide), keep_at (by omega) _ _ (by decide)]
      exact ⟨c3, c2⟩
theorem ea_adv {v : Sett} {r : Int32} {j : Nat} (hv : EX v j) : ∀ (T N : Nat) (σ : Lop), EA σ v r j N → N + T ≤ 700000 → EA (fAdv v T σ) v r j (N + T)
  | 0, _, _, h, _ => h
  | T + 1, N, σ, h, hT => by
    rw [fAdv_s, show N + (T + 1) = (N + 1) + T by omega]
    exact ea_adv hv T (N + 1) _ (ea_tick hv h (by omega)) (by omega)
/-- the ideal loop -/
def EI (τ : Lop) (w : Sett) (r : Int32) (t : Nat) : Prop := lNow τ = nI t ∧ lLoad τ = 0 ∧ lPres τ 0 = r ∧ lPres τ 2 = kU w r t ∧ lPres τ 7 = kI w r t ∧ lPres τ 8 = kX w r t
theorem ei_tick {τ : Lop} {w : Sett} {r : Int32} {t : Nat} (h5 : w 5 = w 2) (h6 : w 6 = w 3) (h4 : w 4 = 0) (h14 : w 14 = 0) (h : EI τ w r t) (ht : t < 800000) : EI (fTick τ w 1) w r (t + 1) := by
  obtain ⟨a1, a2, a3, a4, a7, a8⟩ := h
  have p1 := (tk1_rest τ w).2.2.2.2.2
  have eM : tkM τ w = lPres τ 8 := by
    unfold tkM
    rw [fG_14, h14, noise0, Int32.add_zero]
  have hless : fLess (lPres (tk1 τ w) 9) 1 = 0 := by
    unfold fLess
    split
    · exact if_neg (by decide)
    · rfl
  have he : lPres (tk1 τ w) 0 - fFeed 0 1 (lPres (tk1 τ w) 1) (lPres (tk1 τ w) 3) (lPres (tk1 τ w) 5) = r - kX w r t := by
    have ef : fFeed 0 1 (lPres (tk1 τ w) 1) (lPres (tk1 τ w) 3) (lPres (tk1 τ w) 5) = lPres (tk1 τ w) 1 := by
      unfold fFeed
      rw [if_pos rfl, if_neg (by decide)]
    rw [ef, p1 0 (by decide) (by decide) (by decide) (by decide), tk1_1, eM, a3, a8]
  obtain ⟨c2, c7, cr⟩ := ctl_at (v := w) hless he
  rw [p1 2 (by decide) (by decide) (by decide) (by decide), p1 7 (by decide) (by decide) (by decide) (by decide), a4, a7] at c2 c7
  have c2 : tk2 τ w 1 2 = kU w r (t + 1) := c2.trans (kU_s w r t).symm
  have c7 : tk2 τ w 1 7 = kI w r (t + 1) := c7.trans (kI_s w r t).symm
  have cr : ∀ s : Nat, s ≠ 2 → s ≠ 6 → s ≠ 7 → tk2 τ w 1 s = lPres (tk1 τ w) s := cr
  have c8 : tk2 τ w 1 8 = lPres τ 8 := by rw [cr 8 (by decide) (by decide) (by decide), p1 8 (by decide) (by decide) (by decide) (by decide)]
  refine ⟨by rw [fTick_now, a1]; exact nI_1 t, (tk_load τ w 1).trans a2, ?_, ?_, ?_, ?_⟩
  · rw [tk_at τ w 1 (by decide) (by decide), cr 0 (by decide) (by decide) (by decide), p1 0 (by decide) (by decide) (by decide) (by decide)]; exact a3
  · rw [tk_at τ w 1 (by decide) (by decide)]; exact c2
  · rw [tk_at τ w 1 (by decide) (by decide)]; exact c7
  · rw [tk_pres]
    unfold fYx
    rw [pk_un (by decide), pk_us, a2, c8, fG_2, fG_3, fG_4, h4, a1, show fDelay (nI t) (fKeep (nI t) (tk2 τ w 1) (lRecs τ)) 2 (tk2 τ w 1 2) 0 = _ from del_whole (s := 2) (j := 0) (by omega) (by decide) (by decide), if_pos rfl, c2, a8, Int32.add_zero, kX_s]
    unfold cX
    rw [h5, h6]
theorem ea_begin (σ : Lop) (v : Sett) (r : Int32) (j : Nat) : EA (fSetR (fBegin σ) r) v r j 0 := by
  have z : ∀ s : Nat, s < 10 → s ≠ 0 → lPres (fSetR (fBegin σ) r) s = 0 := fun s hs h0 => by
    rw [fsr_pres, fbg_pres, pk_un h0, fZeroN_at, if_pos hs]
  refine ⟨rfl, rfl, by rw [fsr_pres, pk_us], z 2 (by decide) (by decide), z 3 (by decide) (by decide), z 5 (by decide) (by decide), z 7 (by decide) (by decide), ?_, z 9 (by decide) (by decide), (z 4 (by decide) (by decide)).trans (z 1 (by decide) (by decide)).symm, fun t ht => absurd ht (Nat.not_lt_zero t)⟩
  rw [z 8 (by decide) (by decide), Nat.zero_sub]
  split <;> rfl
theorem ei_begin (σ : Lop) (v : Sett) (r : Int32) : EI (fSetR (fBegin σ) r) v r 0 := by
  have z : ∀ s : Nat, s < 10 → s ≠ 0 → lPres (fSetR (fBegin σ) r) s = 0 := fun s hs h0 => by
    rw [fsr_pres, fbg_pres, pk_un h0, fZeroN_at, if_pos hs]
  exact ⟨rfl, rfl, by rw [fsr_pres, pk_us], z 2 (by decide) (by decide), z 7 (by decide) (by decide), z 8 (by decide) (by decide)⟩
theorem ideal_0 {v w : Sett} {r : Int32} {j : Nat} (hv : EX v j) (hw : ∀ k : Nat, k < 15 → k ≠ 4 → w k = v k) (hw4 : w 4 = 0) : ∀ (k t : Nat) (σ τ : Lop), EA σ v r j (j + t) → EI τ w r t → t + k ≤ 1000 → (fIdN v w k σ τ 0).1 = 0
  | 0, _, _, _, _, _, _ => rfl
  | k + 1, t, σ, τ, h1, h2, hk => by
    obtain ⟨h5, h6, -, -, hj, h14, -, -⟩ := id hv
    have a := ea_tick hv h1 (by omega)
    have b := ei_tick (by rw [hw 5 (by decide) (by decide), hw 2 (by decide) (by decide)]; exact h5) (by rw [hw 6 (by decide) (by decide), hw 3 (by decide) (by decide)]; exact h6) hw4 (by rw [hw 14 (by decide) (by decide)]; exact h14) h2 (by omega)
    have e8 : lPres (fTick σ v 0) 8 = lPres (fTick τ w 1) 8 := by
      rw [a.2.2.2.2.2.2.2.1, if_neg (by omega), b.2.2.2.2.2, show j + t + 1 - j = t + 1 by omega]
      show (kC v r (t + 1)).1 = (kC w r (t + 1)).1
      rw [kC_congr hw]
    have ed : fDiff (fTick σ v 0) (fTick τ w 1) = 0 := by
      unfold fDiff
      rw [e8, Int32.sub_self]
      decide
    rw [fIdN_s, ed, show kMax 0 0 = 0 from by decide]
    exact ideal_0 hv hw hw4 k (t + 1) _ _ (by rw [show j + (t + 1) = j + t + 1 by omega]; exact a) b (by omega)
theorem EX_dead {v : Sett} {j : Nat} (hv : EX v j) : fGet v 4 / 10 = nI j := by
  have q := pk_div (a := 10 * j) (d := 10) (by have := hv.2.2.2.2.1; omega) (by decide) (by decide)
  rw [fG_4, hv.2.2.1]
  rw [show 10 * j / 10 = j by omega] at q
  exact q
theorem prep_ts (x : Xst) {k : Nat} (hk : k < 15) : xPrepTs x k = if k = 14 then 0 else xSet x k := by
  unfold xPrepTs
  rw [show fSet (va_cpy (xSet x) (xTs x) 0 0 15) 14 0 = upd (va_cpy (xSet x) (xTs x) 0 0 15) 14 0 from fSet_in (v := va_cpy (xSet x) (xTs x) 0 0 15) (k := nI 14) (x := 0) (vp_in_nI (by decide) (by decide))]
  by_cases e : k = 14
  · rw [e, pk_us, if_pos rfl]
  · rw [pk_un e, cpy15 _ _ hk, if_neg e]
theorem prep_is (x : Xst) {k : Nat} (hk : k < 15) : xPrepIs x k = if k = 4 then 0 else xPrepTs x k := by
  unfold xPrepIs
  rw [show fSet (va_cpy (xPrepTs x) (xIs x) 0 0 15) 4 0 = upd (va_cpy (xPrepTs x) (xIs x) 0 0 15) 4 0 from fSet_in (v := va_cpy (xPrepTs x) (xIs x) 0 0 15) (k := nI 4) (x := 0) (vp_in_nI (by decide) (by decide))]
  by_cases e : k = 4
  · rw [e, pk_us, if_pos rfl]
  · rw [pk_un e, cpy15 _ _ hk, if_neg e]
theorem z_ideal {x : Xst} {v : Sett} {U : Nat} {σ : Lop} {c : Int32} {φ : Lop} (h : ZS x v U σ c φ) {j T : Nat} (hv : EX v j) (h1 : 1 ≤ T) (h2 : T ≤ 200) : rIdeal x (nI T) = 0 ∧ ZS (gIdeal x (nI T)) v U σ c φ := by
  obtain ⟨hs, hc, hU, hl, hn, hf, hb⟩ := h
  obtain ⟨t1, t2, t3⟩ := rng_T h1 h2 (by decide)
  have hj := hv.2.2.2.2.1
  have ej : (fGet (xSet x) 4 / 10).toNatClampNeg = j := by rw [hs, EX_dead hv, nI_clamp (by omega)]
  have h14 := hv.2.2.2.2.2.1
  have ets : ∀ k : Nat, k < 15 → xPrepTs x k = v k := fun k hk => by
    rw [prep_ts x hk, hs]
    by_cases e : k = 14
    · rw [if_pos e, e, h14]
    · rw [if_neg e]
  have hts : EX (xPrepTs x) j := by
    obtain ⟨q1, q2, q3, q4, q5, q6, q7, q8⟩ := hv
    unfold EX
    rw [ets 5 (by decide), ets 2 (by decide), ets 6 (by decide), ets 3 (by decide), ets 4 (by decide), ets 7 (by decide), ets 14 (by decide), ets 12 (by decide), ets 13 (by decide)]
    exact ⟨q1, q2, q3, q4, q5, q6, q7, q8⟩
  unfold rIdeal gIdeal
  rw [if_neg t1, if_pos (show nI T ≤ 200 from t2), if_neg t1, if_pos (show nI T ≤ 200 from t2), t3, ej]
  refine ⟨?_, hs, hc, hU, hl, hn, hf, hb⟩
  have a0 := ea_adv hts j 0 (xTrial (xPrep x)) (ea_begin (xTrial x) (xPrepTs x) (lPres (xLoop x) 0) j) (by omega)
  rw [Nat.zero_add] at a0
  have b0 : EI (xIdeal (xPrep x)) (xPrepIs x) (lPres (xLoop x) 0) 0 := ei_begin (xIdeal x) (xPrepIs x) (lPres (xLoop x) 0)
  have ed : fDiff (xIdl1 (xPrep x) j) (xIdeal (xPrep x)) = 0 := by
    unfold fDiff
    have q1 : lPres (xIdl1 (xPrep x) j) 8 = 0 := by
      have q := a0.2.2.2.2.2.2.2.1
      rw [if_neg (Nat.lt_irrefl j), Nat.sub_self] at q
      exact q
    have q2 : lPres (xIdeal (xPrep x)) 8 = 0 := b0.2.2.2.2.2
    rw [q1, q2]
    decide
  unfold xIdl2
  rw [ed]
  exact ideal_0 hts (fun k hk h4 => by rw [show xIs (xPrep x) = xPrepIs x from rfl, prep_is x hk, if_neg h4]) (by rw [show xIs (xPrep x) = xPrepIs x from rfl, prep_is x (by decide), if_pos rfl]) T 0 _ _ a0 b0 (by omega)
theorem z_ideal_no (x : Xst) : rIdeal x 201 = -2000000001 := by
  unfold rIdeal
  rw [if_neg (by decide), if_neg (by decide)]
