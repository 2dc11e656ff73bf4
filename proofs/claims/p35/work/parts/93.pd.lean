/-! bounds of level and rate; the mode turns as told -/
theorem ctl_gen (p : Nat → Int32) (v : Sett) (id : Int32) : (∃ w : Int64, fCtl p v id 2 = (fOut (p 2) w v).toInt32) ∧ ∀ s : Nat, s ≠ 2 → s ≠ 6 → s ≠ 7 → fCtl p v id s = p s := by
  unfold fCtl fCtl0 fCtl1 fCtl2 fCtl3
  split
  · exact ⟨⟨_, (pk_un (by decide)).trans pk_us⟩, fun s h2 h6 h7 => by rw [pk_un h7, pk_un h2, pk_un h6]⟩
  · exact ⟨⟨_, pk_us⟩, fun s h2 h6 h7 => by rw [pk_un h2, pk_un h6]⟩
theorem lim_T (x lo hi : Int64) (h : lo.toInt ≤ hi.toInt) : (lo.toInt ≤ x.toInt ∧ x.toInt ≤ hi.toInt ∧ (fLim x lo hi).toInt = x.toInt) ∨ (x.toInt < lo.toInt ∧ (fLim x lo hi).toInt = lo.toInt) ∨ (hi.toInt < x.toInt ∧ (fLim x lo hi).toInt = hi.toInt) := by
  unfold fLim kMinL kMaxL
  by_cases c1 : lo < x
  · rw [if_pos c1]
    rw [zl_lt] at c1
    by_cases c2 : hi < x
    · rw [if_pos c2]
      rw [zl_lt] at c2
      exact Or.inr (Or.inr ⟨c2, rfl⟩)
    · rw [if_neg c2]
      rw [zl_lt] at c2
      exact Or.inl ⟨by omega, by omega, rfl⟩
  · rw [if_neg c1]
    rw [zl_lt] at c1
    by_cases c2 : hi < lo
    · rw [zl_lt] at c2
      exact absurd c2 (by omega)
    · rw [if_neg c2]
      by_cases c3 : x.toInt = lo.toInt
      · exact Or.inl ⟨by omega, by omega, c3.symm⟩
      · exact Or.inr (Or.inl ⟨by omega, rfl⟩)
theorem out_bd {v : Sett} {u : Int32} (w : Int64) (hv : pOk v) (h1 : (v 9).toInt ≤ u.toInt) (h2 : u.toInt ≤ (v 10).toInt) : (v 9).toInt ≤ (fOut u w v).toInt32.toInt ∧ (fOut u w v).toInt32.toInt ≤ (v 10).toInt ∧ (fOut u w v).toInt32.toInt - u.toInt ≤ (v 11).toInt ∧ u.toInt - (fOut u w v).toInt32.toInt ≤ (v 11).toInt := by
  have r9 := pR_9 hv
  have r10 := pR_10 hv
  have r11 := pR_11 hv
  have e9 : (v 9).toInt64.toInt = (v 9).toInt := Int32.toInt_toInt64 _
  have e10 : (v 10).toInt64.toInt = (v 10).toInt := Int32.toInt_toInt64 _
  have e11 : (v 11).toInt64.toInt = (v 11).toInt := Int32.toInt_toInt64 _
  have eu : u.toInt64.toInt = u.toInt := Int32.toInt_toInt64 _
  have em : (u.toInt64 - (v 11).toInt64).toInt = u.toInt - (v 11).toInt := by rw [za_sub (by rw [eu, e11]; omega) (by rw [eu, e11]; omega), eu, e11]
  have ep : (u.toInt64 + (v 11).toInt64).toInt = u.toInt + (v 11).toInt := by rw [za_add (by rw [eu, e11]; omega) (by rw [eu, e11]; omega), eu, e11]
  have a := lim_T w (v 9).toInt64 (v 10).toInt64 (by rw [e9, e10]; omega)
  have b := lim_T (fLim w (v 9).toInt64 (v 10).toInt64) (u.toInt64 - (v 11).toInt64) (u.toInt64 + (v 11).toInt64) (by rw [em, ep]; omega)
  have eo : fOut u w v = fLim (fLim w (v 9).toInt64 (v 10).toInt64) (u.toInt64 - (v 11).toInt64) (u.toInt64 + (v 11).toInt64) := by
    unfold fOut
    rw [fG_9, fG_10, fG_11]
  rw [eo]
  rw [e9, e10] at a
  rw [em, ep] at b
  generalize fLim w (v 9).toInt64 (v 10).toInt64 = y at a b ⊢
  generalize fLim y (u.toInt64 - (v 11).toInt64) (u.toInt64 + (v 11).toInt64) = z at b ⊢
  have ez : z.toInt32.toInt = z.toInt := zl_i (by omega) (by omega)
  rw [ez]
  omega
/-- the law's own words: a bad tick, the turn -/
def isB (mis : Int32) : Int32 := if 100 < mis then 1 else if -100 ≤ mis then 0 else 1
def lTurn (mode bad good pat : Int32) : Int32 := if mode = 0 then (if bad < pat then 0 else 1) else (if good < 2 * pat then 0 else 1)
theorem loud_eq {mis : Int32} (h1 : -2000000 ≤ mis.toInt) (h2 : mis.toInt ≤ 2000000) : fLoud (kAbs mis) 100 = isB mis := by
  have e := (z_abs (x := mis) (by omega)).2
  have e1 : (kAbs mis ≤ 100) = (¬ 100 < mis ∧ -100 ≤ mis) := by
    apply propext
    rw [zi_le, zi_lt, zi_le, e, show (100 : Int32).toInt = 100 from rfl, show (-100 : Int32).toInt = -100 from rfl]
    split <;> omega
  unfold fLoud isB
  simp only [e1]
  by_cases c1 : 100 < mis
  · rw [if_pos c1, if_neg (fun q => q.1 c1)]
  · rw [if_neg c1]
    by_cases c2 : -100 ≤ mis
    · rw [if_pos c2, if_pos ⟨c1, c2⟩]
    · rw [if_neg c2, if_neg (fun q => c2 q.2)]
theorem judge_law {σ : Lop} (h9 : lPres σ 9 = 0 ∨ lPres σ 9 = 1) (b pat : Int32) : lPres (fJudge σ b pat) 9 = (if lTurn (lPres σ 9) (fBad b (lBad σ)) (fGood b (lGood σ)) pat = 0 then lPres σ 9 else 1 - lPres σ 9) ∧
    lBad (fJudge σ b pat) = (if lTurn (lPres σ 9) (fBad b (lBad σ)) (fGood b (lGood σ)) pat = 0 then fBad b (lBad σ) else 0) ∧ lGood (fJudge σ b pat) = (if lTurn (lPres σ 9) (fBad b (lBad σ)) (fGood b (lGood σ)) pat = 0 then fGood b (lGood σ) else 0) := by
  unfold fJudge fJudge2
  generalize fBad b (lBad σ) = bd
  generalize fGood b (lGood σ) = gd
  rcases h9 with h9 | h9
  · have et : fTru (lPres σ 9) gd pat = 0 := by
      rw [h9]
      exact if_neg (by decide)
    have er : fRej (lPres σ 9) bd pat = if bd < pat then 0 else 1 := by
      rw [h9]
      exact if_pos rfl
    have el : lTurn (lPres σ 9) bd gd pat = if bd < pat then 0 else 1 := by
      rw [h9]
      exact if_pos rfl
    rw [et, er, el]
    by_cases c : bd < pat
    · rw [if_pos c, if_pos rfl, if_pos rfl, if_pos rfl, if_pos rfl, if_pos rfl]
      exact ⟨rfl, rfl, rfl⟩
    · rw [if_neg c, if_neg i32_10, if_neg i32_10, if_neg i32_10, if_neg i32_10, h9]
      exact ⟨(show upd (lPres σ) 9 1 9 = 1 from pk_us).trans (by decide), rfl, rfl⟩
  · have er : fRej (lPres σ 9) bd pat = 0 := by
      rw [h9]
      exact if_neg i32_10
    have et : fTru (lPres σ 9) gd pat = if gd < 2 * pat then 0 else 1 := by
      rw [h9]
      exact if_pos rfl
    have el : lTurn (lPres σ 9) bd gd pat = if gd < 2 * pat then 0 else 1 := by
      rw [h9]
      exact if_neg i32_10
    rw [et, er, el]
    by_cases c : gd < 2 * pat
    · rw [if_pos c, if_pos rfl, if_pos rfl, if_pos rfl, if_pos rfl, if_pos rfl]
      exact ⟨rfl, rfl, rfl⟩
    · rw [if_neg c, if_pos rfl, if_neg i32_10, if_neg i32_10, if_neg i32_10, if_neg i32_10, h9]
      exact ⟨(show upd (lPres σ) 9 0 9 = 0 from pk_us).trans (by decide), rfl, rfl⟩
theorem tk1_judge (σ : Lop) (v : Sett) (h9 : lPres σ 9 = 0 ∨ lPres σ 9 = 1) {b : Int32} (hb : fLoud (kAbs (tkM σ v - tkP σ v)) (v 12) = b) : lPres (tk1 σ v) 9 = (if lTurn (lPres σ 9) (fBad b (lBad σ)) (fGood b (lGood σ)) (v 13) = 0 then lPres σ 9 else 1 - lPres σ 9) ∧
    lBad (tk1 σ v) = (if lTurn (lPres σ 9) (fBad b (lBad σ)) (fGood b (lGood σ)) (v 13) = 0 then fBad b (lBad σ) else 0) ∧ lGood (tk1 σ v) = (if lTurn (lPres σ 9) (fBad b (lBad σ)) (fGood b (lGood σ)) (v 13) = 0 then fGood b (lGood σ) else 0) := by
  unfold tk1 fTick1
  rw [fG_12, fG_13, hb]
  have e9 : lPres (lSetP σ (upd (upd (upd (lPres σ) 1 (tkM σ v)) 4 (tkP σ v)) 5 (fStep (lPres σ 5).toInt64 (tkM σ v - tkP σ v).toInt64 (1000 - fGet v 8).toInt64))) 9 = lPres σ 9 := by
    rw [lsp, pk_un (by decide), pk_un (by decide), pk_un (by decide)]
  have q := judge_law (σ := lSetP σ (upd (upd (upd (lPres σ) 1 (tkM σ v)) 4 (tkP σ v)) 5 (fStep (lPres σ 5).toInt64 (tkM σ v - tkP σ v).toInt64 (1000 - fGet v 8).toInt64))) (by rw [e9]; exact h9) b (v 13)
  rw [e9] at q
  exact q
theorem bd_tick {σ : Lop} {v : Sett} {n : mRow} {N : Nat} (hL : LR σ n N) (hN : N < 800000) (hv : pOk v) (h12 : v 12 = 100) (h1 : (v 9).toInt ≤ (lPres σ 2).toInt) (h2 : (lPres σ 2).toInt ≤ (v 10).toInt) {b : Int32} (hb : isB (lPres (fTick σ v 0) 1 - lPres (fTick σ v 0) 4) = b) :
    lPres (fTick σ v 0) 9 = (if lTurn (lPres σ 9) (fBad b (lBad σ)) (fGood b (lGood σ)) (v 13) = 0 then lPres σ 9 else 1 - lPres σ 9) ∧
    lBad (fTick σ v 0) = (if lTurn (lPres σ 9) (fBad b (lBad σ)) (fGood b (lGood σ)) (v 13) = 0 then fBad b (lBad σ) else 0) ∧ lGood (fTick σ v 0) = (if lTurn (lPres σ 9) (fBad b (lBad σ)) (fGood b (lGood σ)) (v 13) = 0 then fGood b (lGood σ) else 0) ∧
    ((v 9).toInt ≤ (lPres (fTick σ v 0) 2).toInt ∧ (lPres (fTick σ v 0) 2).toInt ≤ (v 10).toInt) ∧ (lPres (fTick σ v 0) 2).toInt - (lPres σ 2).toInt ≤ (v 11).toInt ∧ (lPres σ 2).toInt - (lPres (fTick σ v 0) 2).toInt ≤ (v 11).toInt ∧
    lRecs (fTick σ v 0) (64 * 9 + N % 64) = lPres (fTick σ v 0) 9 ∧ sTicks (lSec (fTick σ v 0)) = sTicks (lSec σ) + 1 := by
  have L1 := st_tick hL (by omega) (Or.inl rfl) (QR_of (RS_self hv))
  have b1 := (L1.2.2.2.2.1.1 1 (by decide)).2
  have b4 := (L1.2.2.2.2.1.1 4 (by decide)).2
  have b1 : -1003000 ≤ (lPres (fTick σ v 0) 1).toInt ∧ (lPres (fTick σ v 0) 1).toInt ≤ 1003000 := b1
  have b4 : -500000 ≤ (lPres (fTick σ v 0) 4).toInt ∧ (lPres (fTick σ v 0) 4).toInt ≤ 500000 := b4
  obtain ⟨⟨w, c2⟩, cr⟩ := ctl_gen (lPres (tk1 σ v)) v 0
  have c2 : tk2 σ v 0 2 = (fOut (lPres (tk1 σ v) 2) w v).toInt32 := c2
  have cr : ∀ s : Nat, s ≠ 2 → s ≠ 6 → s ≠ 7 → tk2 σ v 0 s = lPres (tk1 σ v) s := cr
  have p1 := (tk1_rest σ v).2.2.2.2.2
  have e1 : lPres (fTick σ v 0) 1 = tkM σ v := by rw [tk_at σ v 0 (by decide) (by decide), cr 1 (by decide) (by decide) (by decide), tk1_1]
  have e4 : lPres (fTick σ v 0) 4 = tkP σ v := by rw [tk_at σ v 0 (by decide) (by decide), cr 4 (by decide) (by decide) (by decide), tk1_4]
  have e9 : lPres (fTick σ v 0) 9 = lPres (tk1 σ v) 9 := by rw [tk_at σ v 0 (by decide) (by decide), cr 9 (by decide) (by decide) (by decide)]
  have e2 : lPres (fTick σ v 0) 2 = (fOut (lPres σ 2) w v).toInt32 := by rw [tk_at σ v 0 (by decide) (by decide), c2, p1 2 (by decide) (by decide) (by decide) (by decide)]
  have em : (lPres (fTick σ v 0) 1 - lPres (fTick σ v 0) 4).toInt = (lPres (fTick σ v 0) 1).toInt - (lPres (fTick σ v 0) 4).toInt := zi_sub (by omega) (by omega)
  have hl : fLoud (kAbs (tkM σ v - tkP σ v)) (v 12) = b := by
    rw [h12, ← e1, ← e4, loud_eq (by rw [em]; omega) (by rw [em]; omega)]
    exact hb
  obtain ⟨j1, j2, j3⟩ := tk1_judge σ v hL.2.2.2.2.1.2.1 hl
  obtain ⟨o1, o2, o3, o4⟩ := out_bd (u := lPres σ 2) w hv h1 h2
  rw [← e2] at o1 o2 o3 o4
  refine ⟨e9.trans j1, (tk_bad σ v 0).trans j2, (tk_good σ v 0).trans j3, ⟨o1, o2⟩, o3, o4, ?_, ?_⟩
  · rw [tk_recs, hL.1, keep_at (by omega) _ _ (s := 9) (by decide), tk_at σ v 0 (by decide) (by decide)]
  · rw [tk_sec]
    rfl
/-- what holds between two ticks of the law's loop -/
def BS (x : Xst) (v : Sett) (σ : Lop) (i : Nat) : Prop := ZS x v 6 σ 0 lop0 ∧ (∃ n : mRow, LR σ n i) ∧ pOk v ∧ v 12 = 100 ∧ ((v 9).toInt ≤ (lPres σ 2).toInt ∧ (lPres σ 2).toInt ≤ (v 10).toInt) ∧ sTicks (lSec σ) = nI i
theorem bs_run {x : Xst} {v : Sett} {σ : Lop} {i : Nat} (h : BS x v σ i) (hi : i < 60) : rRun x 1 = nI (i + 1) ∧ BS (gRun x 1) v (fTick σ v 0) (i + 1) := by
  obtain ⟨hz, ⟨n, hL⟩, hv, h12, ⟨h1, h2⟩, ht⟩ := h
  obtain ⟨r1, r2⟩ := z_run (T := 1) hz hL.1 (by decide) (by decide) (by omega)
  have L1 := st_tick hL (by omega) (Or.inl rfl) (QR_of (RS_self hv))
  obtain ⟨-, -, -, q4, -, -, -, q8⟩ := bd_tick hL (by omega) hv h12 h1 h2 rfl
  exact ⟨r1, r2, ⟨_, L1⟩, hv, h12, q4, by rw [q8, ht]; exact nI_1 i⟩
/-- the law's numbers behind the tick -/
theorem bs_law {x : Xst} {v : Sett} {σ : Lop} {i : Nat} (h : BS x v σ i) (hi : i < 60) {b t : Int32} (hb : b = isB (lPres (fTick σ v 0) 1 - lPres (fTick σ v 0) 4)) (ht : t = lTurn (lPres σ 9) (fBad b (lBad σ)) (fGood b (lGood σ)) (v 13)) :
    lPres (fTick σ v 0) 9 = (if t = 0 then lPres σ 9 else 1 - lPres σ 9) ∧ lBad (fTick σ v 0) = (if t = 0 then fBad b (lBad σ) else 0) ∧ lGood (fTick σ v 0) = (if t = 0 then fGood b (lGood σ) else 0) ∧
    ¬ v 10 < lPres (fTick σ v 0) 2 ∧ ¬ lPres (fTick σ v 0) 2 < v 9 ∧ ¬ v 11 < lPres (fTick σ v 0) 2 - lPres σ 2 ∧ ¬ v 11 < lPres σ 2 - lPres (fTick σ v 0) 2 ∧ rRecorded (gRun x 1) 9 0 = lPres (fTick σ v 0) 9 := by
  obtain ⟨-, hB⟩ := bs_run h hi
  obtain ⟨hz, ⟨n, hL⟩, hv, h12, ⟨h1, h2⟩, -⟩ := h
  obtain ⟨hz1, ⟨n1, hL1⟩, -⟩ := hB
  obtain ⟨q1, q2, q3, ⟨q4, q5⟩, q6, q7, q8, -⟩ := bd_tick hL (by omega) hv h12 h1 h2 hb.symm
  rw [← ht] at q1 q2 q3
  have r9 := pR_9 hv
  have r10 := pR_10 hv
  refine ⟨q1, q2, q3, by rw [zi_lt]; omega, by rw [zi_lt]; omega, ?_, ?_, ?_⟩
  · rw [zi_lt, zi_sub (by omega) (by omega)]; omega
  · rw [zi_lt, zi_sub (by omega) (by omega)]; omega
  · rw [z_rec9 hz1 hL1.1 (by omega)]; exact q8
theorem bs_over {x : Xst} {v : Sett} {σ : Lop} {i : Nat} (h : BS x v σ i) : ¬ rMeasure x 2 < 0 := by
  obtain ⟨hz, ⟨n, hL⟩, -⟩ := h
  rw [z_mea2 hz, zl_lt, Int32.toInt_toInt64, zl0]
  have q := hL.2.2.2.2.2.1.2.2.1.2.1
  omega
theorem bs_ticks {x : Xst} {v : Sett} {σ : Lop} (h : BS x v σ 60) : rMeasure x 3 = 60 := by
  rw [z_mea3 h.1, h.2.2.2.2.2]
  decide
