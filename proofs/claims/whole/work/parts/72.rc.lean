/-! SIMULATION: settled ticks, correlation, estimation -/
theorem back_i {N i : Nat} (hN : N < 1000000) (hi : i < 1000000) : ((nI N - 1) - nI i).toInt = (N : Int) - (i + 1 : Nat) := by
  have e1 : (nI N - 1).toInt = (N : Int) - 1 := by rw [zi_sub (by rw [nI_toInt (by omega), zi1]; omega) (by rw [nI_toInt (by omega), zi1]; omega), nI_toInt (by omega), zi1]
  rw [zi_sub (by rw [e1, nI_toInt (by omega)]; omega) (by rw [e1, nI_toInt (by omega)]; omega), e1, nI_toInt (by omega)]; omega
theorem back_l {N i : Nat} (hN : N < 1000000) (hi : i < 1000000) : ((lN N - 1) - lN i).toInt = (N : Int) - (i + 1 : Nat) := by
  have e1 : (lN N - 1).toInt = (N : Int) - 1 := by rw [za_sub (by rw [pk_lT (by omega), zl1]; omega) (by rw [pk_lT (by omega), zl1]; omega), pk_lT (by omega), zl1]
  rw [za_sub (by rw [e1, pk_lT (by omega)]; omega) (by rw [e1, pk_lT (by omega)]; omega), e1, pk_lT (by omega)]; omega
theorem set_rel {r : Nat → Int32} {n : mRow} {N TK : Nat} {tol : Int32} (hN : N ≤ 100000) (h0 : n 640 = lN N) (hR : RR r n N) (h9 : n 659 = lN TK) (hTK : TK < 1000000) : ∀ k i : Nat, i ≤ TK → i ≤ 64 → 64 < i + k → fSetN (nI N) r tol (kMin 64 (nI TK)) k i = mSetN n tol k i
  | 0, i, _, _, h => absurd h (by omega)
  | k + 1, i, h1, h2, h3 => by
    have em : kMin 64 (nI TK) = nI (min 64 TK) := by
      unfold kMin
      rcases Nat.lt_or_ge TK 64 with q | q
      · rw [if_pos (show nI TK < (64 : Int32) from nI_lt (a := TK) (b := 64) q (by decide)), Nat.min_eq_right (by omega)]
      · rw [if_neg (show ¬ nI TK < (64 : Int32) from nI_nlt (a := TK) (b := 64) q (by omega)), Nat.min_eq_left q]; rfl
    rw [fSetN_s, mSetN_s, h0, h9, nI_l (show i < 2 ^ 31 by omega), em]
    have e1 : (nI (min 64 TK) ≤ nI i) = (min 64 TK ≤ i) := propext (nI_leI (by omega) (by omega))
    have e2 : ((64 : Int32) ≤ nI i) = (64 ≤ i) := propext (nI_leI (a := 64) (b := i) (by decide) (by omega))
    have e3 : (lN TK ≤ lN i) = (TK ≤ i) := propext (lN_le (by omega) (by omega))
    simp only [e1, e2, e3]
    by_cases c1 : 64 ≤ i
    · rw [if_pos (show min 64 TK ≤ i by omega), if_pos c1, show min 64 TK = i by omega]
    · by_cases c2 : TK ≤ i
      · rw [if_pos (show min 64 TK ≤ i by omega), if_neg c1, if_pos c2, show min 64 TK = i by omega]
      · rw [if_neg (show ¬ min 64 TK ≤ i by omega), if_neg c1, if_neg c2]
        obtain ⟨a1, a2, a3⟩ := at_rec (s := 0) (j := i + 1) hR (by omega) (by decide) (by omega) (by omega) (back_i (N := N) (i := i) (by omega) (by omega)) (back_l (N := N) (i := i) (by omega) (by omega))
        obtain ⟨b1, b2, b3⟩ := at_rec (s := 1) (j := i + 1) hR (by omega) (by decide) (by omega) (by omega) (back_i (N := N) (i := i) (by omega) (by omega)) (back_l (N := N) (i := i) (by omega) (by omega))
        have a1 : mAt n 0 ((lN N - 1) - lN i) = (fRec (nI N) r 0 ((nI N - 1) - nI i)).toInt64 := a1
        have b1 : mAt n 1 ((lN N - 1) - lN i) = (fRec (nI N) r 1 ((nI N - 1) - nI i)).toInt64 := b1
        have a2 : -100000 ≤ (fRec (nI N) r 0 ((nI N - 1) - nI i)).toInt := a2
        have a3 : (fRec (nI N) r 0 ((nI N - 1) - nI i)).toInt ≤ 100000 := a3
        have b2 : -1003000 ≤ (fRec (nI N) r 1 ((nI N - 1) - nI i)).toInt := b2
        have b3 : (fRec (nI N) r 1 ((nI N - 1) - nI i)).toInt ≤ 1003000 := b3
        rw [a1, b1]
        generalize fRec (nI N) r 0 ((nI N - 1) - nI i) = y at a2 a3 ⊢
        generalize fRec (nI N) r 1 ((nI N - 1) - nI i) = z at b2 b3 ⊢
        rw [← zw_sub (by omega) (by omega), ← (z_abs (x := y - z) (by rw [zi_sub (by omega) (by omega)]; omega)).1]
        simp only [l64_lt]
        have rec_ := set_rel (tol := tol) hN h0 hR h9 hTK k (i + 1) (by omega) (by omega) (by omega)
        rw [em] at rec_
        by_cases c3 : kAbs (y - z) ≤ tol
        · rw [if_pos c3, if_neg (Int32.not_lt.mpr c3)]; exact rec_
        · rw [if_neg c3, if_pos (Int32.not_le.mp c3)]
theorem s_settled {x : Xst} {μ : Mst} (h : REL x μ) (tol : Int32) : rSettled x tol = jSettled μ tol := by
  obtain ⟨-, -, -, ⟨N, hN, hL⟩, -⟩ := h
  have e : mIn tol.toInt64 0 100000 = if tol < 0 then 0 else if 100000 < tol then 0 else 1 := mIn_i tol 0 100000
  unfold rSettled jSettled
  rw [e]
  by_cases c1 : tol < 0
  · rw [if_pos c1, if_pos c1, if_pos rfl]
  · rw [if_neg c1, if_neg c1]
    by_cases c2 : tol ≤ 100000
    · rw [if_pos c2, if_neg (Int32.not_lt.mpr c2), if_neg i32_10, hL.1]
      obtain ⟨t1, t2, t3⟩ := hL.2.2.2.2.2.1.2.2.2.1
      obtain ⟨TK, k1, k2⟩ := nat_of ⟨t2, t3⟩ (by omega)
      rw [k2]
      rw [k2, nI_l (by omega)] at t1
      exact set_rel hN hL.2.1 hL.2.2.2.2.2.2.2.1 t1 (by omega) 65 0 (by omega) (by omega) (by omega)
    · rw [if_neg c2, if_pos (Int32.not_le.mp c2), if_pos rfl]
/-! correlation -/
def gSum (f : Nat → Int64) (a : Nat) : Nat → Int64
  | 0 => 0
  | m + 1 => gSum f a m + f (a + m)
def cTc (r : Nat → Int32) (N L t : Nat) : Int64 := (fRec (nI N) r 2 ((nI t - 1) - nI L) - fRec (nI N) r 2 (((nI t - 1) - nI L) - 1)).toInt64 * (fRec (nI N) r 1 (nI t) - fRec (nI N) r 1 (nI t - 1)).toInt64
theorem gSum_le {f : Nat → Int64} {a : Nat} {B : Nat} (hB : B ≤ 1000000000000) : ∀ m : Nat, m ≤ 32 → (∀ i : Nat, i < m → -(B : Int) ≤ (f (a + i)).toInt ∧ (f (a + i)).toInt ≤ B) → -((m * B : Nat) : Int) ≤ (gSum f a m).toInt ∧ (gSum f a m).toInt ≤ ((m * B : Nat) : Int)
  | 0, _, _ => by
    show -((0 * B : Nat) : Int) ≤ (0 : Int64).toInt ∧ (0 : Int64).toInt ≤ ((0 * B : Nat) : Int)
    rw [zl0, Nat.zero_mul]; exact ⟨by omega, by omega⟩
  | m + 1, hm, h => by
    have r := gSum_le (f := f) (a := a) hB m (by omega) (fun i hi => h i (by omega))
    have q := h m (by omega)
    have e : (m + 1) * B = m * B + B := Nat.succ_mul m B
    have hb : m * B ≤ 32 * B := Nat.mul_le_mul_right B (by omega)
    show -(((m + 1) * B : Nat) : Int) ≤ (gSum f a m + f (a + m)).toInt ∧ _
    rw [e]
    generalize m * B = M at r hb ⊢
    have ad : (gSum f a m + f (a + m)).toInt = (gSum f a m).toInt + (f (a + m)).toInt := za_add (by omega) (by omega)
    show _ ∧ (gSum f a m + f (a + m)).toInt ≤ _
    rw [ad]; omega
theorem gSum_congr {f g : Nat → Int64} {a : Nat} : ∀ m : Nat, (∀ i : Nat, i < m → f (a + i) = g (a + i)) → gSum f a m = gSum g a m
  | 0, _ => rfl
  | m + 1, h => by
    show gSum f a m + f (a + m) = gSum g a m + g (a + m)
    rw [gSum_congr m (fun i hi => h i (by omega)), h m (by omega)]
theorem agr_sum {r : Nat → Int32} {N L a M : Nat} (hN : N ≤ 100000) (hM : a + M = N) : ∀ n i : Nat, i ≤ M → M < i + n → fAgr (nI N) r (nI L) n (nI (a + i)) (gSum (cTc r N L) a i) = gSum (cTc r N L) a M
  | 0, i, _, h => absurd h (by omega)
  | n + 1, i, h1, h2 => by
    rw [fAgr_s]
    have e : (nI N ≤ nI (a + i)) = (N ≤ a + i) := propext (nI_leI (by omega) (by omega))
    simp only [e]
    by_cases c : N ≤ a + i
    · rw [if_pos c, show i = M by omega]
    · rw [if_neg c, nI_1]
      exact agr_sum hN hM n (i + 1) (by omega) (by omega)
theorem cor_sum {n : mRow} {N L a M : Nat} (hN : N ≤ 100000) (h0 : n 640 = lN N) (hM : a + M = N) (ha : a = N - 32) : ∀ k m : Nat, m ≤ M → m < k → ∀ s : Int64, mCorN n (nI L) k (lN (a + m) - 1) s = s + gSum (fun t => mCorT n (nI L) (lN t)) a m
  | 0, m, _, h, _ => absurd h (by omega)
  | k + 1, 0, h1, h2, s => by
    rw [mCorN_s, h0]
    have e1 : (lN (a + 0) - 1).toInt = (a : Int) - 1 := by
      rw [za_sub (by rw [pk_lT (by omega), zl1]; omega) (by rw [pk_lT (by omega), zl1]; omega), pk_lT (by omega), zl1]; omega
    have e2 : (lN N - 32).toInt = (N : Int) - 32 := by
      rw [za_sub (by rw [pk_lT (by omega), show (32 : Int64).toInt = 32 from rfl]; omega) (by rw [pk_lT (by omega), show (32 : Int64).toInt = 32 from rfl]; omega), pk_lT (by omega)]; rfl
    show _ = s + 0
    rw [Int64.add_zero]
    by_cases c : lN (a + 0) - 1 < 0
    · rw [if_pos c]
    · rw [zl_lt, e1, zl0] at c
      rw [if_neg (by rw [zl_lt, e1, zl0]; exact c), if_pos (by rw [zl_lt, e1, e2]; omega)]
  | k + 1, m + 1, h1, h2, s => by
    rw [mCorN_s, h0]
    have et : lN (a + (m + 1)) - 1 = lN (a + m) := lN_sub (a := a + (m + 1)) (b := 1) (by omega)
    have e2 : (lN N - 32).toInt = (N : Int) - 32 := by
      rw [za_sub (by rw [pk_lT (by omega), show (32 : Int64).toInt = 32 from rfl]; omega) (by rw [pk_lT (by omega), show (32 : Int64).toInt = 32 from rfl]; omega), pk_lT (by omega)]; rfl
    rw [et, if_neg (by rw [zl_lt, zl0, pk_lT (by omega)]; omega), if_neg (by rw [zl_lt, e2, pk_lT (by omega)]; omega), cor_sum hN h0 hM ha k m (by omega) (by omega)]
    show (s + mCorT n (nI L) (lN (a + m))) + gSum (fun t => mCorT n (nI L) (lN t)) a m = s + (gSum (fun t => mCorT n (nI L) (lN t)) a m + mCorT n (nI L) (lN (a + m)))
    rw [Int64.add_assoc, Int64.add_comm (mCorT n (nI L) (lN (a + m)))]
theorem cT_eq {r : Nat → Int32} {n : mRow} {N L t : Nat} (hN : N ≤ 100000) (hR : RR r n N) (hL : L ≤ 30) (h1 : t < N) (h2 : N ≤ t + 32) : mCorT n (nI L) (lN t) = cTc r N L t ∧ -401200000000 ≤ (cTc r N L t).toInt ∧ (cTc r N L t).toInt ≤ 401200000000 := by
  have i1 : (nI t - 1).toInt = (t : Int) - 1 := by rw [zi_sub (by rw [nI_toInt (by omega), zi1]; omega) (by rw [nI_toInt (by omega), zi1]; omega), nI_toInt (by omega), zi1]
  have i2 : ((nI t - 1) - nI L).toInt = (t : Int) - 1 - L := by rw [zi_sub (by rw [i1, nI_toInt (by omega)]; omega) (by rw [i1, nI_toInt (by omega)]; omega), i1, nI_toInt (by omega)]
  have i3 : (((nI t - 1) - nI L) - 1).toInt = (t : Int) - 2 - L := by rw [zi_sub (by rw [i2, zi1]; omega) (by rw [i2, zi1]; omega), i2, zi1]; omega
  have l1 : (lN t - 1).toInt = (t : Int) - 1 := by rw [za_sub (by rw [pk_lT (by omega), zl1]; omega) (by rw [pk_lT (by omega), zl1]; omega), pk_lT (by omega), zl1]
  have l1b : (lN t - 2).toInt = (t : Int) - 2 := by rw [za_sub (by rw [pk_lT (by omega), show (2 : Int64).toInt = 2 from rfl]; omega) (by rw [pk_lT (by omega), show (2 : Int64).toInt = 2 from rfl]; omega), pk_lT (by omega)]; rfl
  have eL : (nI L).toInt64 = lN L := nI_l (by omega)
  have l2 : ((lN t - 1) - lN L).toInt = (t : Int) - 1 - L := by rw [za_sub (by rw [l1, pk_lT (by omega)]; omega) (by rw [l1, pk_lT (by omega)]; omega), l1, pk_lT (by omega)]
  have l3 : ((lN t - 2) - lN L).toInt = (t : Int) - 2 - L := by rw [za_sub (by rw [l1b, pk_lT (by omega)]; omega) (by rw [l1b, pk_lT (by omega)]; omega), l1b, pk_lT (by omega)]
  obtain ⟨a1, a2, a3⟩ := at_rec (s := 2) (j := N - t + 1 + L) hR (by omega) (by decide) (by omega) (by omega) (a := (nI t - 1) - nI L) (b := (lN t - 1) - lN L) (by rw [i2]; omega) (by rw [l2]; omega)
  obtain ⟨b1, b2, b3⟩ := at_rec (s := 2) (j := N - t + 2 + L) hR (by omega) (by decide) (by omega) (by omega) (a := ((nI t - 1) - nI L) - 1) (b := (lN t - 2) - lN L) (by rw [i3]; omega) (by rw [l3]; omega)
  obtain ⟨c1, c2, c3⟩ := at_rec (s := 1) (j := N - t) hR (by omega) (by decide) (by omega) (by omega) (a := nI t) (b := lN t) (by rw [nI_toInt (by omega)]; omega) (by rw [pk_lT (by omega)]; omega)
  obtain ⟨d1, d2, d3⟩ := at_rec (s := 1) (j := N - t + 1) hR (by omega) (by decide) (by omega) (by omega) (a := nI t - 1) (b := lN t - 1) (by rw [i1]; omega) (by rw [l1]; omega)
  unfold mCorT cTc
  rw [eL]
  rw [show mAt n 2 ((lN t - 1) - lN L) = _ from a1, show mAt n 2 ((lN t - 2) - lN L) = _ from b1, show mAt n 1 (lN t) = _ from c1, show mAt n 1 (lN t - 1) = _ from d1]
  show ((fRec (nI N) r 2 ((nI t - 1) - nI L)).toInt64 - (fRec (nI N) r 2 (((nI t - 1) - nI L) - 1)).toInt64) * ((fRec (nI N) r 1 (nI t)).toInt64 - (fRec (nI N) r 1 (nI t - 1)).toInt64) = _ ∧ _
  have a2 : -100000 ≤ (fRec (nI N) r 2 ((nI t - 1) - nI L)).toInt := a2
  have a3 : (fRec (nI N) r 2 ((nI t - 1) - nI L)).toInt ≤ 100000 := a3
  have b2 : -100000 ≤ (fRec (nI N) r 2 (((nI t - 1) - nI L) - 1)).toInt := b2
  have b3 : (fRec (nI N) r 2 (((nI t - 1) - nI L) - 1)).toInt ≤ 100000 := b3
  have c2 : -1003000 ≤ (fRec (nI N) r 1 (nI t)).toInt := c2
  have c3 : (fRec (nI N) r 1 (nI t)).toInt ≤ 1003000 := c3
  have d2 : -1003000 ≤ (fRec (nI N) r 1 (nI t - 1)).toInt := d2
  have d3 : (fRec (nI N) r 1 (nI t - 1)).toInt ≤ 1003000 := d3
  generalize fRec (nI N) r 2 ((nI t - 1) - nI L) = A at a2 a3 ⊢
  generalize fRec (nI N) r 2 (((nI t - 1) - nI L) - 1) = B at b2 b3 ⊢
  generalize fRec (nI N) r 1 (nI t) = C at c2 c3 ⊢
  generalize fRec (nI N) r 1 (nI t - 1) = D at d2 d3 ⊢
  rw [← zw_sub (by omega) (by omega), ← zw_sub (by omega) (by omega)]
  have eA : (A - B).toInt = A.toInt - B.toInt := zi_sub (by omega) (by omega)
  have eC : (C - D).toInt = C.toInt - D.toInt := zi_sub (by omega) (by omega)
  have m := z_mulb (a := A.toInt - B.toInt) (b := C.toInt - D.toInt) 200000 2006000 (by omega) (by omega)
  have eM : ((A - B).toInt64 * (C - D).toInt64).toInt = (A.toInt - B.toInt) * (C.toInt - D.toInt) := by
    rw [za_mul (by rw [Int32.toInt_toInt64, Int32.toInt_toInt64, eA, eC]; omega) (by rw [Int32.toInt_toInt64, Int32.toInt_toInt64, eA, eC]; omega), Int32.toInt_toInt64, Int32.toInt_toInt64, eA, eC]
  rw [eM]
  exact ⟨rfl, by omega, by omega⟩
theorem corr_eq {x : Xst} {μ : Mst} (h : REL x μ) {L : Nat} (hL : L ≤ 30) : xCorr x (nI L) = mCor (mNow μ) (mPar μ) (nI L) ∧ -20000000000000 ≤ (xCorr x (nI L)).toInt ∧ (xCorr x (nI L)).toInt ≤ 20000000000000 := by
  obtain ⟨hS, -, -, ⟨N, hN, hLr⟩, -⟩ := h
  have h0 := hLr.2.1
  have hR := hLr.2.2.2.2.2.2.2.1
  have e5 : fGet (xSet x) 5 = mPar μ 5 := by rw [fG_5]; exact hS.2 5 (by decide)
  have hM : (N - 32) + (N - (N - 32)) = N := by omega
  have ea : fAgree (nI N) (lRecs (xLoop x)) (nI L) = gSum (cTc (lRecs (xLoop x)) N L) (N - 32) (N - (N - 32)) := by
    unfold fAgree
    rw [max0 (by omega)]
    exact agr_sum hN hM 33 0 (by omega) (by omega)
  have em : mCorS (mNow μ) (nI L) = gSum (cTc (lRecs (xLoop x)) N L) (N - 32) (N - (N - 32)) := by
    unfold mCorS
    rw [h0]
    have q := cor_sum (L := L) hN h0 hM rfl 33 (N - (N - 32)) (Nat.le_refl _) (by omega) 0
    rw [hM] at q
    rw [q, Int64.zero_add]
    exact gSum_congr _ (fun i hi => (cT_eq hN hR hL (by omega) (by omega)).1)
  obtain ⟨B, hBe⟩ : ∃ B : Nat, B = 401200000000 := ⟨_, rfl⟩
  have bd := gSum_le (f := cTc (lRecs (xLoop x)) N L) (a := N - 32) (B := B) (by omega) (N - (N - 32)) (by omega) (fun i hi => by
    have := (cT_eq (t := N - 32 + i) hN hR hL (by omega) (by omega)).2
    exact ⟨by omega, by omega⟩)
  have hb : (N - (N - 32)) * B ≤ 32 * B := Nat.mul_le_mul_right _ (by omega)
  unfold xCorr fCorr mCor
  rw [hLr.1, e5, ea, em]
  generalize gSum (cTc (lRecs (xLoop x)) N L) (N - 32) (N - (N - 32)) = G at bd ⊢
  generalize (N - (N - 32)) * B = Q at bd hb
  refine ⟨rfl, ?_⟩
  split
  · exact ⟨by omega, by omega⟩
  · have : (-G).toInt = -G.toInt := by rw [Int64.toInt_neg]; exact Int.bmod_eq_of_le (by omega) (by omega)
    rw [this]; exact ⟨by omega, by omega⟩
theorem s_correlation {x : Xst} {μ : Mst} (h : REL x μ) (lag : Int32) : rCorrelation x lag = jCorrelation μ lag := by
  have e : mIn lag.toInt64 0 30 = if lag < 0 then 0 else if 30 < lag then 0 else 1 := mIn_i lag 0 30
  unfold rCorrelation jCorrelation
  rw [e]
  by_cases c1 : lag < 0
  · rw [if_pos c1, if_pos c1, if_pos rfl]
  · rw [if_neg c1, if_neg c1]
    by_cases c2 : lag ≤ 30
    · rw [if_pos c2, if_neg (Int32.not_lt.mpr c2), if_neg i32_10]
      obtain ⟨L, hL, rfl⟩ := nI_of c1
      exact (corr_eq h ((nI_leI (a := L) (b := 30) hL (by decide)).mp c2)).1
    · rw [if_neg c2, if_pos (Int32.not_le.mp c2), if_pos rfl]
/-- the strongest lag but one that is excepted -/
theorem str_rel {x : Xst} {exc : Int32} (C : Nat → Int) (hC : ∀ j : Nat, j ≤ 30 → (xCorr x (nI j)).toInt = C j) : ∀ (n j : Nat) (st : Int32) (gr : Int64), j ≤ 31 → 31 < j + n →
    ((st = -1 ∧ ∀ i : Nat, i < j → nI i = exc) ∨ (∃ b : Nat, b < j ∧ st = nI b ∧ ¬ nI b = exc ∧ gr.toInt = C b ∧ (∀ i : Nat, i < j → ¬ nI i = exc → C i ≤ C b) ∧ (∀ i : Nat, i < b → ¬ nI i = exc → C i < C b))) →
    ((xStrN x exc n j st gr = -1 ∧ ∀ i : Nat, i < 31 → nI i = exc) ∨ (∃ b : Nat, b < 31 ∧ xStrN x exc n j st gr = nI b ∧ ¬ nI b = exc ∧ (∀ i : Nat, i < 31 → ¬ nI i = exc → C i ≤ C b) ∧ (∀ i : Nat, i < b → ¬ nI i = exc → C i < C b)))
  | 0, j, _, _, _, h, _ => absurd h (by omega)
  | n + 1, j, st, gr, h1, h2, hI => by
    rw [xStrN_s]
    have e30 : ((30 : Int32) < nI j) = (30 < j) := propext (nI_ltI (a := 30) (b := j) (by decide) (by omega))
    simp only [e30]
    by_cases c : 30 < j
    · rw [if_pos c]
      have ej : j = 31 := by omega
      subst ej
      rcases hI with q | ⟨b, q1, q2, q3, -, q5, q6⟩
      · exact Or.inl q
      · exact Or.inr ⟨b, q1, q2, q3, q5, q6⟩
    · rw [if_neg c]
      have hCj := hC j (by omega)
      by_cases c1 : nI j = exc
      · rw [if_pos c1]
        refine str_rel C hC n (j + 1) st gr (by omega) (by omega) ?_
        rcases hI with ⟨q1, q2⟩ | ⟨b, q1, q2, q3, q4, q5, q6⟩
        · refine Or.inl ⟨q1, fun i hi => ?_⟩
          rcases Nat.lt_or_ge i j with z | z
          · exact q2 i z
          · rw [show i = j by omega]; exact c1
        · refine Or.inr ⟨b, by omega, q2, q3, q4, fun i hi hne => ?_, q6⟩
          rcases Nat.lt_or_ge i j with z | z
          · exact q5 i z hne
          · exact absurd (by rw [show i = j by omega]; exact c1) hne
      · rw [if_neg c1]
        rcases hI with ⟨q1, q2⟩ | ⟨b, q1, q2, q3, q4, q5, q6⟩
        · rw [if_pos q1]
          refine str_rel C hC n (j + 1) (nI j) _ (by omega) (by omega) (Or.inr ⟨j, by omega, rfl, c1, hCj, fun i hi hne => ?_, fun i hi hne => absurd (q2 i hi) hne⟩)
          rcases Nat.lt_or_ge i j with z | z
          · exact absurd (q2 i z) hne
          · rw [show i = j by omega]; exact Int.le_refl _
        · rw [if_neg (by rw [q2]; exact m1_ne (by omega))]
          by_cases c2 : xCorr x (nI j) ≤ gr
          · rw [if_pos c2]
            rw [zl_le, hCj, q4] at c2
            refine str_rel C hC n (j + 1) st gr (by omega) (by omega) (Or.inr ⟨b, by omega, q2, q3, q4, fun i hi hne => ?_, q6⟩)
            rcases Nat.lt_or_ge i j with z | z
            · exact q5 i z hne
            · rw [show i = j by omega]; exact c2
          · rw [if_neg c2]
            rw [zl_le, hCj, q4] at c2
            refine str_rel C hC n (j + 1) (nI j) _ (by omega) (by omega) (Or.inr ⟨j, by omega, rfl, c1, hCj, fun i hi hne => ?_, fun i hi hne => ?_⟩)
            · rcases Nat.lt_or_ge i j with z | z
              · have := q5 i z hne; omega
              · rw [show i = j by omega]; exact Int.le_refl _
            · have := q5 i hi hne; omega
theorem lag_rel {n : mRow} {q : Nat → Int32} (C : Nat → Int) (hC : ∀ j : Nat, j ≤ 30 → (mCor n q (nI j)).toInt = C j) : ∀ (k j : Nat) (best : Int32) (most : Int64), j ≤ 31 → 31 < j + k →
    ((best = -2000000004 ∧ most.toInt = 0 ∧ ∀ i : Nat, i < j → C i ≤ 0) ∨ (∃ b : Nat, b < j ∧ best = nI b ∧ most.toInt = C b ∧ 0 < C b ∧ (∀ i : Nat, i < j → C i ≤ C b) ∧ (∀ i : Nat, i < b → C i < C b))) →
    ((mLagN n q k j best most = -2000000004 ∧ ∀ i : Nat, i < 31 → C i ≤ 0) ∨ (∃ b : Nat, b < 31 ∧ mLagN n q k j best most = nI b ∧ 0 < C b ∧ (∀ i : Nat, i < 31 → C i ≤ C b) ∧ (∀ i : Nat, i < b → C i < C b)))
  | 0, j, _, _, _, h, _ => absurd h (by omega)
  | k + 1, j, best, most, h1, h2, hI => by
    rw [mLagN_s]
    have e30 : ((30 : Int32) < nI j) = (30 < j) := propext (nI_ltI (a := 30) (b := j) (by decide) (by omega))
    simp only [e30]
    by_cases c : 30 < j
    · rw [if_pos c]
      have ej : j = 31 := by omega
      subst ej
      rcases hI with ⟨q1, -, q3⟩ | ⟨b, q1, q2, -, q4, q5, q6⟩
      · exact Or.inl ⟨q1, q3⟩
      · exact Or.inr ⟨b, q1, q2, q4, q5, q6⟩
    · rw [if_neg c]
      have hCj := hC j (by omega)
      by_cases c2 : mCor n q (nI j) ≤ most
      · rw [if_pos c2, if_pos c2]
        rw [zl_le, hCj] at c2
        refine lag_rel C hC k (j + 1) best most (by omega) (by omega) ?_
        rcases hI with ⟨q1, q2, q3⟩ | ⟨b, q1, q2, q3, q4, q5, q6⟩
        · refine Or.inl ⟨q1, q2, fun i hi => ?_⟩
          rcases Nat.lt_or_ge i j with z | z
          · exact q3 i z
          · rw [show i = j by omega]; omega
        · refine Or.inr ⟨b, by omega, q2, q3, q4, fun i hi => ?_, q6⟩
          rcases Nat.lt_or_ge i j with z | z
          · exact q5 i z
          · rw [show i = j by omega]; omega
      · rw [if_neg c2, if_neg c2]
        rw [zl_le, hCj] at c2
        refine lag_rel C hC k (j + 1) (nI j) _ (by omega) (by omega) (Or.inr ⟨j, by omega, rfl, hCj, ?_, fun i hi => ?_, fun i hi => ?_⟩)
        · rcases hI with ⟨-, q2, -⟩ | ⟨b, -, -, q3, q4, -, -⟩ <;> omega
        · rcases Nat.lt_or_ge i j with z | z
          · rcases hI with ⟨-, q2, q3⟩ | ⟨b, -, -, q3, q4, q5, -⟩
            · have := q3 i z; omega
            · have := q5 i z; omega
          · rw [show i = j by omega]; exact Int.le_refl _
        · rcases hI with ⟨-, q2, q3⟩ | ⟨b, -, -, q3, q4, q5, -⟩
          · have := q3 i hi; omega
          · have := q5 i hi; omega
theorem may_rel {n : mRow} {q : Nat → Int32} {B : Nat} (hB : B ≤ 30) (C : Nat → Int) (hC : ∀ j : Nat, j ≤ 30 → (mCor n q (nI j)).toInt = C j) (hb : ∀ j : Nat, j ≤ 30 → -20000000000000 ≤ C j ∧ C j ≤ 20000000000000) : ∀ (k j : Nat) (may : Int32), j ≤ 31 → 31 < j + k →
    ((may = 0 ∧ ∃ i : Nat, i ≤ 30 ∧ i ≠ B ∧ C B < 2 * C i) ∨ (may = 1 ∧ ∀ i : Nat, i < j → i = B ∨ 2 * C i ≤ C B)) →
    ((mMayN n q (nI B) k j may = 0 ∧ ∃ i : Nat, i ≤ 30 ∧ i ≠ B ∧ C B < 2 * C i) ∨ (mMayN n q (nI B) k j may = 1 ∧ ∀ i : Nat, i < 31 → i = B ∨ 2 * C i ≤ C B))
  | 0, j, _, _, h, _ => absurd h (by omega)
  | k + 1, j, may, h1, h2, hI => by
    rw [mMayN_s]
    have e30 : ((30 : Int32) < nI j) = (30 < j) := propext (nI_ltI (a := 30) (b := j) (by decide) (by omega))
    simp only [e30]
    by_cases c : 30 < j
    · rw [if_pos c]
      have ej : j = 31 := by omega
      subst ej
      exact hI
    · rw [if_neg c]
      rcases hI with ⟨q1, q2⟩ | ⟨q1, q2⟩
      · rw [if_pos q1]; exact Or.inl ⟨q1, q2⟩
      · rw [if_neg (by rw [q1]; exact i32_10)]
        refine may_rel hB C hC hb k (j + 1) _ (by omega) (by omega) ?_
        by_cases c1 : nI j = nI B
        · rw [if_pos c1]
          have ej := (nI_eq (by omega) (by omega)).mp c1
          refine Or.inr ⟨rfl, fun i hi => ?_⟩
          rcases Nat.lt_or_ge i j with z | z
          · exact q2 i z
          · exact Or.inl (by omega)
        · rw [if_neg c1]
          have nj : j ≠ B := fun e => c1 (by rw [e])
          have hj := hb j (by omega)
          have e2 : (2 * mCor n q (nI j)).toInt = 2 * C j := by
            rw [za_mul (by rw [show (2 : Int64).toInt = 2 from rfl, hC j (by omega)]; omega) (by rw [show (2 : Int64).toInt = 2 from rfl, hC j (by omega)]; omega), hC j (by omega)]; rfl
          have e3 : (mCor n q (nI B) < 2 * mCor n q (nI j)) = (C B < 2 * C j) := propext (by rw [zl_lt, e2, hC B hB])
          simp only [e3]
          by_cases c2 : C B < 2 * C j
          · rw [if_pos c2]; exact Or.inl ⟨rfl, j, by omega, nj, c2⟩
          · rw [if_neg c2]
            refine Or.inr ⟨rfl, fun i hi => ?_⟩
            rcases Nat.lt_or_ge i j with z | z
            · exact q2 i z
            · rw [show i = j by omega]; exact Or.inr (by omega)
/-- the strongest lag on both sides -/
theorem lag_both {x : Xst} {μ : Mst} (h : REL x μ) : ∃ (C : Nat → Int) (B : Nat), B ≤ 30 ∧ (∀ j : Nat, j ≤ 30 → (xCorr x (nI j)).toInt = C j) ∧ (∀ j : Nat, j ≤ 30 → (mCor (mNow μ) (mPar μ) (nI j)).toInt = C j) ∧ (∀ j : Nat, j ≤ 30 → -20000000000000 ≤ C j ∧ C j ≤ 20000000000000) ∧ xStr x (-1) = nI B ∧ (∀ i : Nat, i < 31 → C i ≤ C B) ∧ ((C B ≤ 0 ∧ mLag (mNow μ) (mPar μ) = -2000000004) ∨ (0 < C B ∧ mLag (mNow μ) (mPar μ) = nI B)) := by
  have hx : ∀ j : Nat, j ≤ 30 → (xCorr x (nI j)).toInt = (xCorr x (nI j)).toInt := fun _ _ => rfl
  have hm : ∀ j : Nat, j ≤ 30 → (mCor (mNow μ) (mPar μ) (nI j)).toInt = (xCorr x (nI j)).toInt := fun j hj => by rw [(corr_eq h hj).1]
  have hb : ∀ j : Nat, j ≤ 30 → -20000000000000 ≤ (xCorr x (nI j)).toInt ∧ (xCorr x (nI j)).toInt ≤ 20000000000000 := fun j hj => (corr_eq h hj).2
  have sr := str_rel (x := x) (exc := -1) (fun j => (xCorr x (nI j)).toInt) hx 32 0 (-1) 0 (by omega) (by omega) (Or.inl ⟨rfl, fun i hi => absurd hi (by omega)⟩)
  have lr := lag_rel (n := mNow μ) (q := mPar μ) (fun j => (xCorr x (nI j)).toInt) hm 32 0 (-2000000004) 0 (by omega) (by omega) (Or.inl ⟨rfl, rfl, fun i hi => absurd hi (by omega)⟩)
  rcases sr with ⟨-, s2⟩ | ⟨B, s1, s2, -, s4, s5⟩
  · exact absurd (s2 0 (by decide)) (m1_ne (by decide))
  · have s4' : ∀ i : Nat, i < 31 → (xCorr x (nI i)).toInt ≤ (xCorr x (nI B)).toInt := fun i hi => s4 i hi (m1_ne (by omega))
    refine ⟨fun j => (xCorr x (nI j)).toInt, B, by omega, hx, hm, hb, s2, s4', ?_⟩
    rcases lr with ⟨l1, l2⟩ | ⟨b, l1, l2, l3, l4, l5⟩
    · exact Or.inl ⟨l2 B s1, l1⟩
    · have e : b = B := by
        have q1 := l4 B s1
        have q2 := s4' b l1
        rcases Nat.lt_trichotomy b B with z | z | z
        · have := s5 b z (m1_ne (by omega)); omega
        · exact z
        · have := l5 B z; omega
      subst e
      exact Or.inr ⟨l3, l2⟩
theorem s_estimated {x : Xst} {μ : Mst} (h : REL x μ) : rEstimated x = mLag (mNow μ) (mPar μ) := by
  obtain ⟨C, B, hB, hx, hm, hb, e, hmax, hd⟩ := lag_both h
  unfold rEstimated
  rw [e]
  have ec : (xCorr x (nI B) ≤ 0) = (C B ≤ 0) := propext (by rw [zl_le, hx B hB, zl0])
  simp only [ec]
  rcases hd with ⟨d1, d2⟩ | ⟨d1, d2⟩
  · rw [if_pos d1, d2]
  · rw [if_neg (by omega), d2]
theorem s_tune {x : Xst} {μ : Mst} (h : REL x μ) : rTune x = jTune μ ∧ REL (gTune x) (hTune μ) := by
  obtain ⟨C, B, hB, hx, hm, hb, e, hmax, hd⟩ := lag_both h
  have h0 := h
  obtain ⟨hS, hC, hT, hL, hK, hM⟩ := h
  unfold rTune jTune gTune hTune
  rw [e]
  have ec : (xCorr x (nI B) ≤ 0) = (C B ≤ 0) := propext (by rw [zl_le, hx B hB, zl0])
  simp only [ec]
  rcases hd with ⟨d1, d2⟩ | ⟨d1, d2⟩
  · rw [if_pos d1, if_pos d1, d2]
    have m0 : mMay (mNow μ) (mPar μ) (-2000000004) = 0 := by
      unfold mMay
      rw [if_pos (by decide), mMayN_s, if_neg (by decide), if_pos rfl]
    rw [if_pos m0, if_pos m0]
    exact ⟨rfl, h0⟩
  · rw [if_neg (show ¬ C B ≤ 0 by omega), if_neg (show ¬ C B ≤ 0 by omega), d2]
    -- the second
    have s2 := str_rel (x := x) (exc := nI B) C hx 32 0 (-1) 0 (by omega) (by omega) (Or.inl ⟨rfl, fun i hi => absurd hi (by omega)⟩)
    rcases s2 with ⟨-, q⟩ | ⟨B2, b1, b2, b3, b4, -⟩
    · exfalso
      have q0 := (nI_eq (a := 0) (b := B) (by decide) (by omega)).mp (q 0 (by decide))
      have q1 := (nI_eq (a := 1) (b := B) (by decide) (by omega)).mp (q 1 (by decide))
      omega
    · have e2 : xStr x (nI B) = nI B2 := b2
      rw [e2]
      have hb2 := hb B2 (by omega)
      have em : (2 * xCorr x (nI B2)).toInt = 2 * C B2 := by
        rw [za_mul (by rw [show (2 : Int64).toInt = 2 from rfl, hx B2 (by omega)]; omega) (by rw [show (2 : Int64).toInt = 2 from rfl, hx B2 (by omega)]; omega), hx B2 (by omega)]; rfl
      have ec2 : (2 * xCorr x (nI B2) ≤ xCorr x (nI B)) = (2 * C B2 ≤ C B) := propext (by rw [zl_le, em, hx B hB])
      simp only [ec2]
      have mr := may_rel (n := mNow μ) (q := mPar μ) hB C hm hb 32 0 (if nI B < 0 then 0 else 1) (by omega) (by omega) (Or.inr ⟨by rw [if_neg (nI_pos (by omega))], fun i hi => absurd hi (by omega)⟩)
      have nB2 : B2 ≠ B := fun z => b3 (by rw [z])
      rcases mr with ⟨m1, i, i1, i2, i3⟩ | ⟨m1, m2⟩
      · have n2 : ¬ 2 * C B2 ≤ C B := by
          have := b4 i (by omega) (fun z => i2 ((nI_eq (by omega) (by omega)).mp z)); omega
        have m1 : mMay (mNow μ) (mPar μ) (nI B) = 0 := m1
        rw [if_neg n2, if_neg n2, if_pos m1, if_pos m1]
        exact ⟨rfl, h0⟩
      · have p2 : 2 * C B2 ≤ C B := by rcases m2 B2 b1 with z | z; exact absurd z nB2; exact z
        have m1 : ¬ mMay (mNow μ) (mPar μ) (nI B) = 0 := by rw [show mMay (mNow μ) (mPar μ) (nI B) = 1 from m1]; exact i32_10
        rw [if_pos p2, if_pos p2, if_neg m1, if_neg m1]
        have e10 : (10 : Int32) * nI B = nI (10 * B) := pk_mul 10 B
        have k7 : vp_in (7 : Int32) 15 := vp_in_nI (n := 7) (by decide) (by decide)
        have al : fAllows 7 (10 * nI B) = 1 := by
          unfold fAllows
          rw [if_neg (show ¬ fPar 7 = 0 by decide), e10, if_neg, if_neg]
          · rw [zi_lt, nI_toInt (by omega), show (pGreatest (7 : Int32).toNatClampNeg).toInt = 300 from by decide +kernel]; omega
          · rw [zi_lt, nI_toInt (by omega), show (pLeast (7 : Int32).toNatClampNeg).toInt = 0 from by decide +kernel]; omega
        refine ⟨rfl, ?_, RC_keep hC hS, hT, hL, hK, hM⟩
        show RS (fSet (xSet x) 7 (10 * nI B)) (upd (mPar μ) 7 (10 * nI B))
        rw [fSet_in k7]
        refine ⟨pSet_ok hS.1 k7 al, fun i hi => ?_⟩
        by_cases c : i = 7
        · subst c; exact pk_us.trans pk_us.symm
        · exact (pk_un c).trans ((hS.2 i hi).trans (pk_un c).symm)
