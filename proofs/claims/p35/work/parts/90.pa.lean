/-! THE PROPERTY: the object between the law's calls: settings, number of changes, loop, number of stored states, the first of them -/
def nU (U : Nat) : Nat := if U = 6 then 6 else U + 1
theorem nU_le {U : Nat} (h : U ≤ 6) : nU U ≤ 6 := by
  unfold nU
  split
  · exact Nat.le_refl 6
  · omega
def ZS (x : Xst) (v : Sett) (U : Nat) (σ : Lop) (c : Int32) (φ : Lop) : Prop := xSet x = v ∧ cCnt (xChg x) = nI U ∧ U ≤ 6 ∧ xLoop x = σ ∧ xCnt x = c ∧ xFst x = φ ∧ lB (xSnd x)
theorem ZS.ok {x : Xst} {v : Sett} {U : Nat} {σ : Lop} {c : Int32} {φ : Lop} (h : ZS x v U σ c φ) : cOk (xChg x) := by
  obtain ⟨-, h2, h3, -⟩ := h
  unfold cOk
  rw [h2]
  rcases (show U = 0 ∨ U = 1 ∨ U = 2 ∨ U = 3 ∨ U = 4 ∨ U = 5 ∨ U = 6 by omega) with rfl | rfl | rfl | rfl | rfl | rfl | rfl <;> decide
theorem par_ok {k : Nat} (hk : k < 15) : ¬ fPar (nI k) = 0 := by
  unfold fPar
  rw [if_neg (nI_pos (by omega)), if_neg (show ¬ (15 : Int32) ≤ nI k from nI_ge (a := k) (b := 15) hk (by decide))]
  decide
theorem sig_ok {k : Nat} (hk : k < 10) : ¬ fSig (nI k) = 0 := by
  unfold fSig
  rw [if_neg (nI_pos (by omega)), if_neg (show ¬ (10 : Int32) ≤ nI k from nI_ge (a := k) (b := 10) hk (by decide))]
  decide
theorem z_set {x : Xst} {v : Sett} {U : Nat} {σ : Lop} {c : Int32} {φ : Lop} (h : ZS x v U σ c φ) (k : Nat) (hk : k < 15) {w : Int32} (h1 : (pLeast k).toInt ≤ w.toInt) (h2 : w.toInt ≤ (pGreatest k).toInt) : rSetParameter x (nI k) w = v k ∧ ZS (gSetParameter x (nI k) w) (upd v k w) (nU U) σ c φ := by
  obtain ⟨hs, hc, hU, hl, hn, hf, hb⟩ := h
  have hp := par_ok hk
  have hcl : (nI k).toNatClampNeg = k := nI_clamp (by omega)
  have ha : fAllows (nI k) w = 1 := by
    unfold fAllows
    rw [if_neg hp, hcl, if_neg (by rw [zi_lt]; omega), if_neg (by rw [zi_lt]; omega)]
  have hne : ¬ fAllows (nI k) w = 0 := by rw [ha]; decide
  unfold rSetParameter gSetParameter
  rw [if_neg hne, if_neg hne]
  refine ⟨by rw [fGet_in hp, hcl, hs], ?_, ?_, nU_le hU, hl, hn, hf, hb⟩
  · show fSet (xSet x) (nI k) w = _
    rw [fSet_in (fPar_in hp), hcl, hs]
  · show cCnt (cKeep (xChg x) (xSet x)) = _
    unfold cKeep nU
    rw [hc]
    by_cases c6 : U = 6
    · subst c6
      rw [if_pos (show nI 6 = 6 from rfl), if_pos rfl]
      rfl
    · have n6 : ¬ nI U = 6 := fun q => c6 ((nI_eq (a := U) (b := 6) (by omega) (by decide)).mp q)
      rw [if_neg n6, if_neg c6]
      exact nI_1 U
theorem lev_ok {w : Int32} (h1 : -100000 ≤ w.toInt) (h2 : w.toInt ≤ 100000) : ¬ fLev w = 0 := by
  unfold fLev
  rw [if_neg (by rw [zi_lt, show (-100000 : Int32).toInt = -100000 from rfl]; omega), if_neg (by rw [zi_lt, show (100000 : Int32).toInt = 100000 from rfl]; omega)]
  decide
theorem z_sp {x : Xst} {v : Sett} {U : Nat} {σ : Lop} {c : Int32} {φ : Lop} (h : ZS x v U σ c φ) {w : Int32} (h1 : -100000 ≤ w.toInt) (h2 : w.toInt ≤ 100000) : rSetSetpoint x w = lPres σ 0 ∧ ZS (gSetSetpoint x w) v U (fSetR σ w) c φ := by
  obtain ⟨hs, hc, hU, hl, hn, hf, hb⟩ := h
  unfold rSetSetpoint gSetSetpoint
  rw [if_neg (lev_ok h1 h2), if_neg (lev_ok h1 h2), hl]
  exact ⟨rfl, hs, hc, hU, rfl, hn, hf, hb⟩
theorem z_ld {x : Xst} {v : Sett} {U : Nat} {σ : Lop} {c : Int32} {φ : Lop} (h : ZS x v U σ c φ) {w : Int32} (h1 : -100000 ≤ w.toInt) (h2 : w.toInt ≤ 100000) : rSetLoad x w = lLoad σ ∧ ZS (gSetLoad x w) v U (lPut_load σ w) c φ := by
  obtain ⟨hs, hc, hU, hl, hn, hf, hb⟩ := h
  unfold rSetLoad gSetLoad
  rw [if_neg (lev_ok h1 h2), if_neg (lev_ok h1 h2), hl]
  exact ⟨rfl, hs, hc, hU, rfl, hn, hf, hb⟩
theorem adv_now (v : Sett) : ∀ (T N : Nat) (σ : Lop), lNow σ = nI N → lNow (fAdv v T σ) = nI (N + T)
  | 0, _, _, h => h
  | T + 1, N, σ, h => by
    rw [fAdv_s, adv_now v T (N + 1) (fTick σ v 0) (by rw [fTick_now, h]; exact nI_1 N), show N + 1 + T = N + (T + 1) by omega]
theorem rng_T {T M : Nat} (h1 : 1 ≤ T) (h2 : T ≤ M) (hM : M < 2 ^ 31) : ¬ nI T < 1 ∧ nI T ≤ nI M ∧ (nI T).toNatClampNeg = T := ⟨nI_nlt (a := T) (b := 1) h1 (by omega), nI_le h2 hM, nI_clamp (by omega)⟩
theorem z_run {x : Xst} {v : Sett} {U : Nat} {σ : Lop} {c : Int32} {φ : Lop} (h : ZS x v U σ c φ) {N T : Nat} (hN : lNow σ = nI N) (h1 : 1 ≤ T) (h2 : T ≤ 500) (h3 : N + T ≤ 100000) : rRun x (nI T) = nI (N + T) ∧ ZS (gRun x (nI T)) v U (fAdv v T σ) c φ := by
  obtain ⟨hs, hc, hU, hl, hn, hf, hb⟩ := h
  obtain ⟨t1, t2, t3⟩ := rng_T h1 h2 (by decide)
  have e : nI T ≤ 100000 - nI N := by
    rw [show (100000 - nI N : Int32) = nI (100000 - N) from pk_sub (a := 100000) (by omega)]
    exact nI_le (by omega) (by omega)
  unfold rRun gRun
  rw [hl, hN, if_neg t1, if_pos (show nI T ≤ 500 from t2), if_pos e, if_neg t1, if_pos (show nI T ≤ 500 from t2), if_pos e, t3, hs]
  exact ⟨adv_now v T N σ hN, hs, hc, hU, rfl, hn, hf, hb⟩
theorem z_val {x : Xst} {v : Sett} {U : Nat} {σ : Lop} {c : Int32} {φ : Lop} (h : ZS x v U σ c φ) (s : Nat) (hs : s < 10) : rValue x (nI s) = lPres σ s := by
  unfold rValue
  rw [if_neg (sig_ok hs), nI_clamp (by omega), h.2.2.2.1]
theorem z_mea0 {x : Xst} {v : Sett} {U : Nat} {σ : Lop} {c : Int32} {φ : Lop} (h : ZS x v U σ c φ) : rMeasure x 0 = sErr (lSec σ) := by
  unfold rMeasure
  rw [if_pos rfl, h.2.2.2.1]
theorem z_mea2 {x : Xst} {v : Sett} {U : Nat} {σ : Lop} {c : Int32} {φ : Lop} (h : ZS x v U σ c φ) : rMeasure x 2 = (sOver (lSec σ)).toInt64 := by
  unfold rMeasure
  rw [if_neg (by decide), if_neg (by decide), if_pos rfl, h.2.2.2.1]
theorem z_mea3 {x : Xst} {v : Sett} {U : Nat} {σ : Lop} {c : Int32} {φ : Lop} (h : ZS x v U σ c φ) : rMeasure x 3 = (sTicks (lSec σ)).toInt64 := by
  unfold rMeasure
  rw [if_neg (by decide), if_neg (by decide), if_neg (by decide), if_pos rfl, h.2.2.2.1]
theorem z_rec9 {x : Xst} {v : Sett} {U : Nat} {σ : Lop} {c : Int32} {φ : Lop} (h : ZS x v U σ c φ) {N : Nat} (hN : lNow σ = nI (N + 1)) (hN2 : N < 100000) : rRecorded x 9 0 = lRecs σ (64 * 9 + N % 64) := by
  unfold rRecorded
  rw [h.2.2.2.1, if_neg (show ¬ fSig 9 = 0 from sig_ok (k := 9) (by decide)), if_neg (show ¬ (0 : Int32) < 0 by decide), if_pos (show (0 : Int32) < 64 by decide), hN, if_neg (show ¬ nI (N + 1) ≤ 0 from nI_nle (by omega) (by omega)), show ((nI (N + 1) - 1) - 0 : Int32) = nI N from by rw [nI_pred, Int32.sub_zero]]
  exact fRec_at (s := 9) (by decide) (Nat.lt_succ_self N) (by omega) (by omega)
theorem z_store {x : Xst} {v : Sett} {U : Nat} {σ φ : Lop} (h : ZS x v U σ 0 φ) : rStore x = 1 ∧ ZS (gStore x) v U σ 1 (fLoopCopy φ σ) := by
  obtain ⟨hs, hc, hU, hl, hn, hf, hb⟩ := h
  unfold rStore gStore
  rw [hn, if_pos (by decide), if_pos rfl]
  refine ⟨rfl, hs, hc, hU, hl, rfl, ?_, hb⟩
  show fLoopCopy (xFst x) (xLoop x) = _
  rw [hf, hl]
theorem one_one : (1 - 1 : Int32) = 0 := by decide
theorem z_recall {x : Xst} {v : Sett} {U : Nat} {σ φ : Lop} (h : ZS x v U σ 1 φ) : rRecall x = 0 ∧ ZS (gRecall x) v U (fLoopCopy σ φ) 0 φ := by
  obtain ⟨hs, hc, hU, hl, hn, hf, hb⟩ := h
  have er : rRecall x = xCnt x - 1 := if_neg (by rw [hn]; decide)
  have eg : gRecall x = xPut_storedStates (xPut_loop x (fLoopCopy (xLoop x) (xFst x))) (1 - 1) := by
    unfold gRecall
    rw [hn, if_neg (by decide), if_pos rfl]
  rw [er, eg, hn, hl, hf, one_one]
  exact ⟨rfl, hs, hc, hU, rfl, rfl, hf, hb⟩
theorem z_ahead {x : Xst} {v : Sett} {U : Nat} {σ : Lop} {c : Int32} {φ : Lop} (h : ZS x v U σ c φ) {T s : Nat} (h1 : 1 ≤ T) (h2 : T ≤ 500) (hs10 : s < 10) : rAhead x (nI T) (nI s) = lPres (fAdv v T (fLoopCopy (xTrial x) σ)) s ∧ ZS (gAhead x (nI T) (nI s)) v U σ c φ := by
  obtain ⟨hs, hc, hU, hl, hn, hf, hb⟩ := h
  obtain ⟨t1, t2, t3⟩ := rng_T h1 h2 (by decide)
  have t4 : ¬ 500 < nI T := Int32.not_lt.mpr t2
  unfold rAhead gAhead
  rw [if_neg t1, if_neg t4, if_neg (sig_ok hs10), if_neg t1, if_neg t4, if_neg (sig_ok hs10), t3, nI_clamp (by omega), hs, hl]
  exact ⟨rfl, hs, hc, hU, hl, hn, hf, hb⟩
theorem z_undo {x : Xst} {v : Sett} {U : Nat} {σ : Lop} {c : Int32} {φ : Lop} (h : ZS x v (U + 1) σ c φ) : rUndo x = nI U ∧ ZS (gUndo x) (cBackV (xChg x) v) U σ c φ := by
  obtain ⟨hs, hc, hU, hl, hn, hf, hb⟩ := h
  have h0 : ¬ nI (U + 1) = 0 := nI_ne0 (by omega) (by omega)
  have e : cCnt (cBackC (xChg x)) = nI U := by
    unfold cBackC
    rw [hc, if_neg h0]
    exact nI_pred U
  unfold rUndo gUndo
  rw [hc, if_neg h0, if_neg h0]
  refine ⟨e, ?_, e, by omega, hl, hn, hf, hb⟩
  show cBackV (xChg x) (xSet x) = _
  rw [hs]
theorem z_new : ZS x0 sett0 0 lop0 0 lop0 := ⟨rfl, rfl, by decide, rfl, rfl, rfl, Or.inr rfl⟩
theorem sett0_at {k : Nat} (hk : k < 15) : sett0 k = pInitial k := cpy15 _ _ hk
/-- many ticks, bound -/
theorem LR_now {σ : Lop} {n : mRow} {N : Nat} (h : LR σ n N) : lNow σ = nI N := h.1
theorem pk_new : pOk sett0 := by
  intro k hk
  rw [sett0_at hk]
  revert k
  decide +kernel
theorem pk_upd {v : Sett} (h : pOk v) {k : Nat} {w : Int32} (h1 : (pLeast k).toInt ≤ w.toInt) (h2 : w.toInt ≤ (pGreatest k).toInt) : pOk (upd v k w) := by
  intro j hj
  by_cases e : j = k
  · rw [e, pk_us]; exact ⟨h1, h2⟩
  · rw [pk_un e]; exact h j hj
/-- a new loop with bounds, for some row -/
theorem LR_new : ∃ n : mRow, LR lop0 n 0 := by
  refine ⟨mZeroN (fun _ => 0) 681, LR_ext (LR_zero lop0 (fun _ => 0)) rfl rfl rfl rfl rfl (fun s hs => ?_) (fun _ _ => rfl) rfl rfl (fun _ _ => ⟨rfl, rfl, rfl, rfl⟩) (fun _ _ => rfl)⟩
  rcases (show s = 0 ∨ s = 1 ∨ s = 2 ∨ s = 3 ∨ s = 4 ∨ s = 5 ∨ s = 6 ∨ s = 7 ∨ s = 8 ∨ s = 9 by omega) with rfl | rfl | rfl | rfl | rfl | rfl | rfl | rfl | rfl | rfl <;> rfl
theorem RS_self {v : Sett} (h : pOk v) : RS v v := ⟨h, fun _ _ => rfl⟩
