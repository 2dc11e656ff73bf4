/-! copies run alike; the best gain is best -/
theorem LR_load {σ : Lop} {n : mRow} {N : Nat} {w : Int32} (h : LR σ n N) (h1 : -100000 ≤ w.toInt) (h2 : w.toInt ≤ 100000) : LR (lPut_load σ w) (vp_updL n 642 w.toInt64) N :=
  LR_put h (Or.inl rfl) rfl rfl rfl rfl rfl rfl rfl ⟨pk_uLs, h1, h2⟩ (by rw [pk_uLn (by decide)]; exact h.2.2.2.1)
theorem sig_eq {σ τ : Lop} {n : mRow} {N : Nat} (a : LR σ n N) (b : LR τ n N) {s : Nat} (hs : s < 10) : lPres σ s = lPres τ s := (l64_inj _ _).mp ((a.2.2.2.2.1.1 s hs).1.symm.trans (b.2.2.2.2.1.1 s hs).1)
theorem err_sec {σ τ : Lop} {n : mRow} {N : Nat} (a : LR σ n N) (b : LR τ n N) : sErr (lSec σ) = sErr (lSec τ) := a.2.2.2.2.2.1.1.symm.trans b.2.2.2.2.2.1.1
theorem err_any {v w q : Nat → Int32} (hv : RS v q) (hw : RS w q) : ∀ (T N : Nat) (σ τ : Lop) (n : mRow) (z : Int64), LR σ n N → LR τ n N → N + T ≤ 800000 → fErrS v T σ z = fErrS w T τ z
  | 0, _, _, _, _, _, _, _, _ => rfl
  | T + 1, N, σ, τ, n, z, h1, h2, hT => by
    have a := st_tick h1 (by omega) (Or.inl rfl) (QR_of hv)
    have b := st_tick h2 (by omega) (Or.inl rfl) (QR_of hw)
    rw [fErrS_s, fErrS_s, sig_eq a b (s := 0) (by decide), sig_eq a b (s := 1) (by decide)]
    exact err_any hv hw T (N + 1) _ _ _ _ a b (by omega)
theorem err_plus (v : Sett) : ∀ (T : Nat) (σ : Lop) (a b : Int64), fErrS v T σ (a + b) = a + fErrS v T σ b
  | 0, _, _, _ => rfl
  | T + 1, σ, a, b => by
    rw [fErrS_s, fErrS_s, Int64.add_assoc, err_plus v T]
/-- the error sum of the section grows as the trial's does -/
theorem tick_err (σ : Lop) (v : Sett) : sErr (lSec (fTick σ v 0)) = sErr (lSec σ) + (kAbs (lPres (fTick σ v 0) 0 - lPres (fTick σ v 0) 1)).toInt64 := by
  have e := congrArg (fun s : Lop => sErr (lSec s)) (setE_tick σ (sErr (lSec σ)) v 0)
  exact e
theorem err_adv (v : Sett) : ∀ (T : Nat) (σ : Lop), sErr (lSec (fAdv v T σ)) = fErrS v T σ (sErr (lSec σ))
  | 0, _ => rfl
  | T + 1, σ => by
    rw [fAdv_s, fErrS_s, err_adv v T, tick_err]
theorem err_grow (v : Sett) (T : Nat) (σ : Lop) : sErr (lSec (fAdv v T σ)) - sErr (lSec σ) = fErrS v T σ 0 := by
  have e : sErr (lSec (fAdv v T σ)) = sErr (lSec σ) + fErrS v T σ 0 := by
    rw [err_adv, ← err_plus, Int64.add_zero]
  rw [e, Int64.add_comm, Int64.add_sub_cancel]
/-- the sum of errors with the gain g -/
def eF (v : Sett) (T : Nat) (σ : Lop) (g : Nat) : Int64 := fErrS (upd v 0 (nI g)) T σ 0
theorem gain_pok {v : Sett} (hv : pOk v) {g : Nat} (hg : g ≤ 20000) : pOk (upd v 0 (nI g)) := pk_upd hv (by rw [nI_toInt (by omega), show (pLeast 0).toInt = 0 from by decide +kernel]; omega) (by rw [nI_toInt (by omega), show (pGreatest 0).toInt = 20000 from by decide +kernel]; omega)
theorem xerr_eq {v : Sett} {x : Xst} {n : mRow} {N T g : Nat} (hv : pOk v) (hx : xSet x = v) (hl : LR (xLoop x) n N) (hg : g ≤ 20000) (hT : N + T ≤ 800000) : xErr x (nI g) T = eF v T (xLoop x) g := by
  have ag : ∀ k : Nat, k < 15 → xErrV x (nI g) k = upd v 0 (nI g) k := by
    intro k hk
    unfold xErrV
    rw [show fSet (va_cpy (xSet x) (xTs x) 0 0 15) 0 (nI g) = upd (va_cpy (xSet x) (xTs x) 0 0 15) 0 (nI g) from fSet_in (v := va_cpy (xSet x) (xTs x) 0 0 15) (k := nI 0) (x := nI g) (vp_in_nI (by decide) (by decide))]
    by_cases e : k = 0
    · rw [e, pk_us, pk_us]
    · rw [pk_un e, pk_un e, cpy15 _ _ hk, hx]
  exact err_any (q := upd v 0 (nI g)) ⟨pOk_ext (gain_pok hv hg) ag, ag⟩ (RS_self (gain_pok hv hg)) T N _ _ n 0 (LR_copy hl (fun _ _ => rfl)) hl hT
def xSame (x y : Xst) : Prop := xSet y = xSet x ∧ xChg y = xChg x ∧ xLoop y = xLoop x ∧ xFst y = xFst x ∧ xSnd y = xSnd x ∧ xCnt y = xCnt x
theorem xErrX_same (x : Xst) (g : Int32) (T : Nat) : xSame x (xErrX x g T) := ⟨rfl, rfl, rfl, rfl, rfl, rfl⟩
theorem xSame.tr {x y z : Xst} (a : xSame x y) (b : xSame y z) : xSame x z := ⟨b.1.trans a.1, b.2.1.trans a.2.1, b.2.2.1.trans a.2.2.1, b.2.2.2.1.trans a.2.2.2.1, b.2.2.2.2.1.trans a.2.2.2.2.1, b.2.2.2.2.2.trans a.2.2.2.2.2⟩
def eG (v : Sett) (T : Nat) (σ : Lop) (i : Nat) : Int := (eF v T σ (250 * i)).toInt
theorem best_min {v : Sett} {σ : Lop} {n : mRow} {N T : Nat} (hv : pOk v) (hl : LR σ n N) (hT : N + T ≤ 800000) : ∀ (k j b : Nat) (x : Xst), xSet x = v → xLoop x = σ → 1 ≤ j → j ≤ 21 → 22 ≤ j + k → b < j → (∀ i : Nat, i < j → eG v T σ b ≤ eG v T σ i ∧ (i < b → eG v T σ b < eG v T σ i)) →
    ∃ B : Nat, B ≤ 20 ∧ (fBestN T k j (nI (250 * b)) (eF v T σ (250 * b)) x).1 = nI (250 * B) ∧ (∀ i : Nat, i ≤ 20 → eG v T σ B ≤ eG v T σ i ∧ (i < B → eG v T σ B < eG v T σ i)) ∧ xSame x (fBestN T k j (nI (250 * b)) (eF v T σ (250 * b)) x).2
  | 0, j, b, x, _, _, h1, h2, h3, _, _ => absurd h3 (by omega)
  | k + 1, j, b, x, hx, hs, h1, h2, h3, hb, hm => by
    rw [fBestN_s]
    by_cases cj : j = 21
    · subst cj
      rw [if_pos (show 5000 < nI (250 * 21) by decide)]
      exact ⟨b, by omega, rfl, fun i hi => hm i (by omega), rfl, rfl, rfl, rfl, rfl, rfl⟩
    · have lt : ¬ 5000 < nI (250 * j) := nI_nlt (a := 5000) (b := 250 * j) (by omega) (by decide)
      rw [if_neg lt, xerr_eq (g := 250 * j) hv hx (by rw [hs]; exact hl) (by omega) hT, hs]
      have sm := xErrX_same x (nI (250 * j)) T
      by_cases c : eF v T σ (250 * b) ≤ eF v T σ (250 * j)
      · rw [if_pos c]
        rw [zl_le] at c
        have c : eG v T σ b ≤ eG v T σ j := c
        obtain ⟨B, q1, q2, q3, q4⟩ := best_min hv hl hT k (j + 1) b (xErrX x (nI (250 * j)) T) hx hs (by omega) (by omega) (by omega) (by omega) (fun i hi => by
          rcases Nat.lt_or_ge i j with q | q
          · exact hm i q
          · have e : i = j := by omega
            rw [e]; exact ⟨c, fun w => absurd w (by omega)⟩)
        exact ⟨B, q1, q2, q3, sm.tr q4⟩
      · rw [if_neg c]
        rw [zl_le] at c
        have c : ¬ eG v T σ b ≤ eG v T σ j := c
        obtain ⟨B, q1, q2, q3, q4⟩ := best_min hv hl hT k (j + 1) j (xErrX x (nI (250 * j)) T) hx hs (by omega) (by omega) (by omega) (by omega) (fun i hi => by
          rcases Nat.lt_or_ge i j with q | q
          · have m := (hm i q).1
            exact ⟨by omega, fun _ => by omega⟩
          · have e : i = j := by omega
            rw [e]; exact ⟨Int.le_refl _, fun w => absurd w (by omega)⟩)
        exact ⟨B, q1, q2, q3, sm.tr q4⟩
theorem ZS.same {x y : Xst} {v : Sett} {U : Nat} {σ : Lop} {c : Int32} {φ : Lop} (h : ZS x v U σ c φ) (e : xSame x y) : ZS y v U σ c φ := by
  obtain ⟨a1, a2, a3, a4, a5, a6, a7⟩ := h
  obtain ⟨e1, e2, e3, e4, e5, e6⟩ := e
  exact ⟨e1.trans a1, by rw [e2]; exact a2, a3, e3.trans a4, e6.trans a5, e4.trans a6, by rw [e5]; exact a7⟩
theorem z_best {x : Xst} {v : Sett} {U : Nat} {σ : Lop} {c : Int32} {φ : Lop} (h : ZS x v U σ c φ) {n : mRow} {N T : Nat} (hv : pOk v) (hl : LR σ n N) (h1 : 1 ≤ T) (h2 : T ≤ 100) (h3 : N ≤ 100000) :
    ∃ B : Nat, B ≤ 20 ∧ rBest x (nI T) = nI (250 * B) ∧ (∀ i : Nat, i ≤ 20 → eG v T σ B ≤ eG v T σ i ∧ (i < B → eG v T σ B < eG v T σ i)) ∧ ZS (gBest x (nI T)) v U σ c φ := by
  obtain ⟨t1, t2, t3⟩ := rng_T h1 h2 (by decide)
  have hs := h.1
  have hl2 := h.2.2.2.1
  have e0 : xErr x 0 T = eF v T σ (250 * 0) := by
    have q := xerr_eq (x := x) (g := 0) (T := T) hv hs (by rw [hl2]; exact hl) (by omega) (by omega)
    rw [hl2] at q
    exact q
  obtain ⟨B, q1, q2, q3, q4⟩ := best_min (T := T) hv hl (by omega) 21 1 0 (xErrX x 0 T) hs hl2 (by decide) (by decide) (by decide) (by decide) (fun i hi => by
    have e : i = 0 := by omega
    rw [e]; exact ⟨Int.le_refl _, fun w => absurd w (by omega)⟩)
  have ef : fBest x T = fBestN T 21 1 (nI (250 * 0)) (eF v T σ (250 * 0)) (xErrX x 0 T) := by
    unfold fBest
    rw [e0]
    rfl
  have er : rBest x (nI T) = (fBest x T).1 := by
    unfold rBest
    rw [if_neg t1, if_pos (show nI T ≤ 100 from t2), t3]
  have eg : gBest x (nI T) = (fBest x T).2 := by
    unfold gBest
    rw [if_neg t1, if_pos (show nI T ≤ 100 from t2), t3]
  refine ⟨B, q1, by rw [er, ef]; exact q2, q3, ?_⟩
  rw [eg, ef]
  exact h.same ((xErrX_same x 0 T).tr q4)
/-- the law's check of a gain against the best one -/
theorem best_chk {v : Sett} {σ : Lop} {T B i : Nat} (hm : eG v T σ B ≤ eG v T σ i ∧ (i < B → eG v T σ B < eG v T σ i)) : eF v T σ (250 * B) < eF v T σ (250 * i) ∨ (eF v T σ (250 * i) = eF v T σ (250 * B) ∧ B ≤ i) := by
  rw [zl_lt, zl_eq]
  show eG v T σ B < eG v T σ i ∨ (eG v T σ i = eG v T σ B ∧ B ≤ i)
  rcases Nat.lt_or_ge i B with q | q
  · exact Or.inl (hm.2 q)
  · have m := hm.1
    omega
/-- errors from a copy -/
theorem eF_copy {v : Sett} {σ τ : Lop} {n : mRow} {N T g : Nat} (hv : pOk v) (h1 : LR σ n N) (h2 : LR τ n N) (hg : g ≤ 20000) (hT : N + T ≤ 800000) : eF v T σ g = eF v T τ g := err_any (RS_self (gain_pok hv hg)) (RS_self (gain_pok hv hg)) T N _ _ n 0 h1 h2 hT
theorem adv_sig {v w q : Nat → Int32} (hv : RS v q) (hw : RS w q) {σ τ : Lop} {n : mRow} {N T s : Nat} (h1 : LR σ n N) (h2 : LR τ n N) (hT : N + T ≤ 800000) (hs : s < 10) : lPres (fAdv v T σ) s = lPres (fAdv w T τ) s := sig_eq (LR_adv hv T N σ n h1 hT) (LR_adv hw T N τ n h2 hT) hs
theorem upd_back {v : Nat → Int32} {k : Nat} {a b : Int32} (h : v k = b) : upd (upd v k a) k b = v := by
  funext j
  by_cases e : j = k
  · rw [e, pk_us, h]
  · rw [pk_un e, pk_un e]
theorem upd_upd {v : Nat → Int32} {k : Nat} {a b : Int32} : upd (upd v k a) k b = upd v k b := by
  funext j
  by_cases e : j = k
  · rw [e, pk_us, pk_us]
  · rw [pk_un e, pk_un e, pk_un e]
