theorem fSet_in {v : Sett} {k x : Int32} (hk : vp_in k 15) : fSet v k x = upd v k.toNatClampNeg x := by
  obtain ⟨j, hj, rfl⟩ := vp_in_of hk (by decide)
  unfold fSet fPar
  rw [if_neg (nI_pos (by omega)), if_neg (show ¬ (15 : Int32) ≤ nI j from nI_ge (a := j) (b := 15) hj (by decide)), if_neg (by decide)]
def RS (v q : Nat → Int32) : Prop := pOk v ∧ ∀ k : Nat, k < 15 → v k = q k
theorem pOk_ext {v w : Nat → Int32} (h : pOk v) (e : ∀ k : Nat, k < 15 → w k = v k) : pOk w := fun k hk => by rw [e k hk]; exact h k hk
theorem QR_of {v q : Nat → Int32} (h : RS v q) : QR v q 0 := ⟨fun k hk _ => h.2 k hk, h.2 4 (by decide), h.1⟩
theorem LR_lB {σ : Lop} {n : mRow} {N : Nat} (h : LR σ n N) : lB σ := by
  obtain ⟨-, -, -, -, -, ⟨-, -, -, -, hu⟩, -⟩ := h
  rcases hu with ⟨a, -⟩ | ⟨a, -⟩
  · exact Or.inl a
  · exact Or.inr a
theorem SP_ext2 {p p' : Nat → Int32} {n m : mRow} (h : SP p n) (ep : ∀ s : Nat, s < 10 → p' s = p s) (e : ∀ j : Nat, 641 ≤ j → j ≤ 654 → m j = n j) : SP p' m := fun t ht => by rw [e _ (sIx_ge t ht).1 (sIx_ge t ht).2, ep t ht]; exact h t ht
theorem LR_ext {σ τ : Lop} {n m : mRow} {N : Nat} (h : LR σ n N) (hn : lNow τ = lNow σ) (hl : lLoad τ = lLoad σ) (hs : lSeed τ = lSeed σ) (hb : lBad τ = lBad σ) (hg : lGood τ = lGood σ) (hp : ∀ s : Nat, s < 10 → lPres τ s = lPres σ s) (hr : ∀ j : Nat, j < 640 → lRecs τ j = lRecs σ j) (hx : lSec τ = lSec σ)
    (hc : wCnt (lWat τ) = wCnt (lWat σ)) (hw : ∀ j : Nat, j < 4 → wSig (lWat τ) j = wSig (lWat σ) j ∧ wLeast (lWat τ) j = wLeast (lWat σ) j ∧ wGreat (lWat τ) j = wGreat (lWat σ) j ∧ wGtick (lWat τ) j = wGtick (lWat σ) j) (e : ∀ j : Nat, j < 681 → m j = n j) : LR τ m N := by
  obtain ⟨h1, h2, h3, h4, ⟨h5, h6, h7, h8⟩, h9, ⟨W, w1, w2, w3, w4⟩, h11, h12⟩ := h
  refine ⟨hn.trans h1, (e 640 (by decide)).trans h2, ?_, ?_, ⟨SP_ext2 h5 hp (fun j _ b => e j (by omega)), ?_, ?_, ?_⟩, ?_, ⟨W, w1, hc.trans w2, (e 660 (by decide)).trans w3, fun j hj => ?_⟩, fun s hs' t a b => ?_, mOk_ext (fun j _ hj => e j hj) h12⟩
  · rw [e 642 (by decide), hl]; exact h3
  · rw [e 643 (by decide), hs]; exact h4
  · rw [hp 9 (by decide)]; exact h6
  · rw [e 649 (by decide), hb]; exact h7
  · rw [e 650 (by decide), hg]; exact h8
  · rw [hx]; exact XR_ext h9 (fun j _ b _ _ => e j (by omega))
  · obtain ⟨a, b, c⟩ := w4 j hj
    obtain ⟨q1, q2, q3, q4⟩ := hw j (by omega)
    unfold wP
    rw [q1, q2, q3, q4, e (661 + 5 * j) (by omega), e (661 + 5 * j + 1) (by omega), e (661 + 5 * j + 2) (by omega), e (661 + 5 * j + 3) (by omega), e (661 + 5 * j + 4) (by omega)]
    exact ⟨a, b, c⟩
  · rw [e _ (by omega), hr _ (by omega)]; exact h11 s hs' t a b
theorem LR_row {σ : Lop} {n m : mRow} {N : Nat} (h : LR σ n N) (e : ∀ j : Nat, j < 681 → m j = n j) : LR σ m N :=
  LR_ext h rfl rfl rfl rfl rfl (fun _ _ => rfl) (fun _ _ => rfl) rfl rfl (fun _ _ => ⟨rfl, rfl, rfl, rfl⟩) e
theorem LR_copy {σ τ : Lop} {n m : mRow} {N : Nat} (h : LR τ n N) (e : ∀ j : Nat, j < 681 → m j = n j) : LR (fLoopCopy σ τ) m N := by
  have c : ∀ (f g : Nat → Int32) (k j : Nat), j < k → va_cpy f g 0 0 k j = f j := fun f g k j hj => by rw [pk_cpy_in (Nat.zero_le _) (by omega), Nat.sub_zero, Nat.zero_add]
  exact LR_ext h rfl rfl rfl rfl rfl (fun s hs => c _ _ 10 s hs) (fun j hj => c _ _ 640 j hj) rfl rfl (fun j hj => ⟨c _ _ 4 j hj, c _ _ 4 j hj, c _ _ 4 j hj, c _ _ 4 j hj⟩) e
theorem LR_adv {v q : Nat → Int32} (hQ : RS v q) : ∀ (T N : Nat) (σ : Lop) (n : mRow), LR σ n N → N + T ≤ 800000 → LR (fAdv v T σ) (mAdv q 0 T n) (N + T)
  | 0, N, σ, n, h, _ => h
  | T + 1, N, σ, n, h, hT => by
    rw [fAdv_s, mAdv_s, show N + (T + 1) = (N + 1) + T by omega]
    exact LR_adv hQ T (N + 1) _ _ (st_tick h (by omega) (Or.inl rfl) (QR_of hQ)) (by omega)
theorem cpy15 (f g : Nat → Int32) {k : Nat} (hk : k < 15) : va_cpy f g 0 0 15 k = f k := by rw [pk_cpy_in (Nat.zero_le _) (by omega), Nat.sub_zero, Nat.zero_add]
theorem cForget_at (R : Nat → Nat → Int32) {i k : Nat} (hi : i < 5) (hk : k < 15) : cForget R i k = R (i + 1) k := by
  unfold cForget
  rcases (show i = 0 ∨ i = 1 ∨ i = 2 ∨ i = 3 ∨ i = 4 by omega) with rfl | rfl | rfl | rfl | rfl
  · rw [va_up_ne _ _ (by decide), va_up_ne _ _ (by decide), va_up_ne _ _ (by decide), va_up_ne _ _ (by decide), va_up_self, cpy15 _ _ hk]
  · rw [va_up_ne _ _ (by decide), va_up_ne _ _ (by decide), va_up_ne _ _ (by decide), va_up_self, cpy15 _ _ hk]
  · rw [va_up_ne _ _ (by decide), va_up_ne _ _ (by decide), va_up_self, cpy15 _ _ hk]
  · rw [va_up_ne _ _ (by decide), va_up_self, cpy15 _ _ hk]
  · rw [va_up_self, cpy15 _ _ hk]
theorem fPar_pos {k : Int32} (h : ¬ fPar k = 0) : ∃ j : Nat, j < 15 ∧ k = nI j := vp_in_of (fPar_in h) (by decide)
theorem fGet_in {v : Sett} {k : Int32} (h : ¬ fPar k = 0) : fGet v k = v k.toNatClampNeg := by unfold fGet; rw [if_neg h]
theorem fAllows_01 (k v : Int32) : fAllows k v = 0 ∨ fAllows k v = 1 := by
  unfold fAllows
  split
  · exact Or.inl rfl
  · split
    · exact Or.inl rfl
    · split
      · exact Or.inl rfl
      · exact Or.inr rfl
theorem fLev_in {v : Int32} (h : ¬ fLev v = 0) : -100000 ≤ v.toInt ∧ v.toInt ≤ 100000 := by
  unfold fLev at h
  by_cases c1 : v < -100000
  · rw [if_pos c1] at h; exact absurd rfl h
  · rw [if_neg c1] at h
    by_cases c2 : 100000 < v
    · rw [if_pos c2] at h; exact absurd rfl h
    · rw [zi_lt, show (-100000 : Int32).toInt = -100000 from rfl] at c1
      rw [zi_lt, show (100000 : Int32).toInt = 100000 from rfl] at c2
      exact ⟨by omega, by omega⟩
theorem LR_setR {σ : Lop} {n : mRow} {N : Nat} {v : Int32} (h : LR σ n N) (hv : -100000 ≤ v.toInt ∧ v.toInt ≤ 100000) : LR (fSetR σ v) (mSetRow n v) N := by
  obtain ⟨h1, h2, h3, h4, ⟨h5, h6, h7, h8⟩, h9, h10, h11, h12⟩ := h
  have rest : ∀ j : Nat, j ≠ 641 → j ≠ 655 → j ≠ 656 → j ≠ 657 → j ≠ 658 → j ≠ 659 → mSetRow n v j = n j := fun j a1 a2 a3 a4 a5 a6 => by unfold mSetRow; rw [pk_uLn a6, pk_uLn a5, pk_uLn a4, pk_uLn a3, pk_uLn a2, pk_uLn a1]
  have e0 : n 641 = (lPres σ 0).toInt64 := (h5 0 (by decide)).1
  refine ⟨h1, (rest 640 (by decide) (by decide) (by decide) (by decide) (by decide) (by decide)).trans h2, ?_, ?_, ⟨?_, ?_, ?_, ?_⟩, ⟨?_, ?_, ⟨?_, ?_, ?_⟩, ⟨?_, ?_, ?_⟩, ?_⟩, WR_ext h10 (fun j hj => rest j (by omega) (by omega) (by omega) (by omega) (by omega) (by omega)), fun s hs t a b => ?_, ?_⟩
  · rw [rest 642 (by decide) (by decide) (by decide) (by decide) (by decide) (by decide)]; exact h3
  · rw [rest 643 (by decide) (by decide) (by decide) (by decide) (by decide) (by decide)]; exact h4
  · have := SP_ign (SP_ign (SP_ign (SP_ign (SP_ign (SP_upd h5 0 (by decide) (v := v) rfl hv.1 hv.2) (j := 655) (w := (n 641).toInt32.toInt64) (by decide)) (j := 656) (w := 0) (by decide)) (j := 657) (w := 0) (by decide)) (j := 658) (w := 0) (by decide)) (j := 659) (w := 0) (by decide)
    exact this
  · show upd (lPres σ) 0 v 9 = 0 ∨ upd (lPres σ) 0 v 9 = 1
    rw [pk_un (by decide)]; exact h6
  · rw [rest 649 (by decide) (by decide) (by decide) (by decide) (by decide) (by decide)]; exact h7
  · rw [rest 650 (by decide) (by decide) (by decide) (by decide) (by decide) (by decide)]; exact h8
  · unfold mSetRow; rw [pk_uLn (by decide), pk_uLn (by decide), pk_uLn (by decide), pk_uLs]; rfl
  · unfold mSetRow; rw [pk_uLn (by decide), pk_uLn (by decide), pk_uLs]; rfl
  · unfold mSetRow; rw [pk_uLn (by decide), pk_uLs]; rfl
  · show 0 ≤ (0 : Int32).toInt; decide
  · show (0 : Int32).toInt ≤ 1103000; decide
  · unfold mSetRow; rw [pk_uLs]; rfl
  · show 0 ≤ (0 : Int32).toInt; decide
  · show (0 : Int32).toInt ≤ _; rw [zi0]; omega
  · have a1 : mSetRow n v 641 = v.toInt64 := by unfold mSetRow; rw [pk_uLn (by decide), pk_uLn (by decide), pk_uLn (by decide), pk_uLn (by decide), pk_uLn (by decide), pk_uLs]
    have a2 : mSetRow n v 655 = (lPres σ 0).toInt64 := by unfold mSetRow; rw [pk_uLn (by decide), pk_uLn (by decide), pk_uLn (by decide), pk_uLn (by decide), pk_uLs, e0, Int32.toInt32_toInt64]
    rw [a1, a2]
    show ((if v < lPres σ 0 then (0 : Int32) else 1) = 0 ∧ _) ∨ ((if v < lPres σ 0 then (0 : Int32) else 1) = 1 ∧ _)
    rw [l64_lt]
    by_cases c : v < lPres σ 0
    · rw [if_pos c]; exact Or.inl ⟨rfl, c⟩
    · rw [if_neg c]; exact Or.inr ⟨rfl, c⟩
  · rw [rest _ (by omega) (by omega) (by omega) (by omega) (by omega) (by omega)]; exact h11 s hs t a b
  · unfold mSetRow
    exact mOk_upd (by decide) (mOk_upd (by decide) (mOk_upd (by decide) (mOk_upd (by decide) (mOk_upd (by decide) (mOk_upd (by decide) h12)))))
theorem XR_ext2 {x : Sec} {n m : mRow} {K : Nat} (h : XR x n K) (e : ∀ j : Nat, j = 641 ∨ (655 ≤ j ∧ j ≤ 659) → m j = n j) : XR x m K := by
  unfold XR at h ⊢
  rw [e 656 (by decide), e 657 (by decide), e 658 (by decide), e 659 (by decide), e 641 (by decide), e 655 (by decide)]
  exact h
theorem LR_put {σ τ : Lop} {n : mRow} {N j0 : Nat} {w : Int64} (h : LR σ n N) (hj : j0 = 642 ∨ j0 = 643) (t1 : lNow τ = lNow σ) (t2 : lBad τ = lBad σ) (t3 : lGood τ = lGood σ) (t4 : lPres τ = lPres σ) (t5 : lRecs τ = lRecs σ) (t6 : lSec τ = lSec σ) (t7 : lWat τ = lWat σ)
    (a1 : vp_updL n j0 w 642 = (lLoad τ).toInt64 ∧ -100000 ≤ (lLoad τ).toInt ∧ (lLoad τ).toInt ≤ 100000) (a2 : vp_updL n j0 w 643 = (lSeed τ).toInt64 ∧ 0 ≤ (lSeed τ).toInt ∧ (lSeed τ).toInt ≤ 9999) : LR τ (vp_updL n j0 w) N := by
  obtain ⟨h1, h2, h3, h4, ⟨h5, h6, h7, h8⟩, h9, h10, h11, h12⟩ := h
  have rest : ∀ j : Nat, j ≠ j0 → vp_updL n j0 w j = n j := fun j a => pk_uLn a
  have hig : ∀ s : Nat, s < 10 → sIx s ≠ j0 := by rcases hj with rfl | rfl <;> decide
  refine ⟨t1.trans h1, (rest 640 (by omega)).trans h2, a1, a2, ⟨by rw [t4]; exact SP_ign h5 hig, by rw [t4]; exact h6, by rw [t2, rest 649 (by omega)]; exact h7, by rw [t3, rest 650 (by omega)]; exact h8⟩, by rw [t6]; exact XR_ext2 h9 (fun j hj2 => rest j (by omega)), by rw [t7]; exact WR_ext h10 (fun j hj2 => rest j (by omega)), fun s hs t a b => by rw [t5, rest _ (by omega)]; exact h11 s hs t a b, mOk_upd (by omega) h12⟩
theorem fZeroN_at (p : Nat → Int32) : ∀ k j : Nat, fZeroN p k j = if j < k then 0 else p j
  | 0, _ => rfl
  | k + 1, j => by
    show upd (fZeroN p k) k 0 j = _
    by_cases c : j = k
    · rw [c, pk_us, if_pos (by omega)]
    · rw [pk_un c, fZeroN_at p k j]
      by_cases d : j < k
      · rw [if_pos d, if_pos (by omega)]
      · rw [if_neg d, if_neg (by omega)]
theorem LR_zero (σ : Lop) (n : mRow) : LR (fBegin σ) (mZeroN n 681) 0 := by
  have z : ∀ j : Nat, j < 681 → mZeroN n 681 j = 0 := fun j hj => by rw [mZeroN_at, if_pos hj]
  have zz : (0 : Int64) = (0 : Int32).toInt64 := rfl
  refine ⟨rfl, z 640 (by decide), ⟨z 642 (by decide), (show (-100000 : Int) ≤ (0 : Int32).toInt by decide), (show (0 : Int32).toInt ≤ (100000 : Int) by decide)⟩, ⟨z 643 (by decide), (show (0 : Int) ≤ (0 : Int32).toInt by decide), (show (0 : Int32).toInt ≤ (9999 : Int) by decide)⟩, ⟨fun s hs => ?_, Or.inl ?_, ⟨z 649 (by decide), (show (0 : Int) ≤ (0 : Int32).toInt by decide), (show (0 : Int32).toInt ≤ ((0 : Nat) : Int) by decide)⟩, ⟨z 650 (by decide), (show (0 : Int) ≤ (0 : Int32).toInt by decide), (show (0 : Int32).toInt ≤ ((0 : Nat) : Int) by decide)⟩⟩, ⟨z 656 (by decide), z 657 (by decide), ⟨z 658 (by decide), (show (0 : Int) ≤ (0 : Int32).toInt by decide), (show (0 : Int32).toInt ≤ (1103000 : Int) by decide)⟩, ⟨z 659 (by decide), (show (0 : Int) ≤ (0 : Int32).toInt by decide), (show (0 : Int32).toInt ≤ ((0 : Nat) : Int) by decide)⟩, Or.inr ⟨rfl, ?_⟩⟩, ⟨0, by decide, rfl, z 660 (by decide), fun j hj => absurd hj (by omega)⟩, fun s hs t a b => absurd a (by omega), ?_⟩
  · have e : lPres (fBegin σ) s = 0 := by show fZeroN (lPres σ) 10 s = 0; rw [fZeroN_at, if_pos hs]
    have := sBd_le s hs
    rw [e, z _ (by have := (sIx_ge s hs).2; omega)]
    exact ⟨rfl, by rw [zi0]; omega, by rw [zi0]; omega⟩
  · show fZeroN (lPres σ) 10 9 = 0
    rw [fZeroN_at, if_pos (by decide)]
  · rw [z 641 (by decide), z 655 (by decide)]; decide
  · refine ⟨by rw [z 640 (by decide)]; decide, 0, by decide, by rw [z 660 (by decide)]; rfl, fun j hj => ?_⟩
    rw [z (661 + 5 * j) (by omega)]
    exact vp_in_nI (n := 0) (by decide) (by decide)
def setE (σ : Lop) (z : Int64) : Lop := lPut_section σ (sPut_errorSum (lSec σ) z)
theorem setE_1 (σ : Lop) (z : Int64) (v : Sett) (m p : Int32) : fTick1 (setE σ z) v m p = setE (fTick1 σ v m p) z := by
  unfold fTick1
  have e : ∀ q : Nat → Int32, lSetP (setE σ z) q = setE (lSetP σ q) z := fun _ => rfl
  rw [e]
  have k : ∀ (τ : Lop) (b g r t : Int32), fJudge2 (setE τ z) b g r t = setE (fJudge2 τ b g r t) z := by
    intro τ b g r t
    unfold fJudge2
    split
    · split <;> rfl
    · rfl
  exact k _ _ _ _ _
theorem setE_2 (τ : Lop) (z : Int64) (v : Sett) (id : Int32) : fTick2 (setE τ z) v id = setE (fTick2 τ v id) z := by
  unfold fTick2
  rw [show lPres (setE τ z) = lPres τ from rfl]
  generalize fCtl (lPres τ) v id = q
  rfl
theorem setE_3 (τ : Lop) (z : Int64) : fTick3 (setE τ z) = setE (fTick3 τ) z := by
  unfold fTick3
  rw [show lPres (setE τ z) = lPres τ from rfl, show lNow (setE τ z) = lNow τ from rfl, show lRecs (setE τ z) = lRecs τ from rfl]
  generalize fKeep (lNow τ) (lPres τ) (lRecs τ) = q
  rfl
theorem setE_sec (s : Sec) (z : Int64) (a b c : Int32) : fSecSee (sPut_errorSum s z) a b c = sPut_errorSum (fSecSee s a b c) (z + (kAbs (a - b)).toInt64) := rfl
theorem setE_4 (τ : Lop) (z : Int64) (u0 : Int32) : fTick4 (setE τ z) u0 = setE (fTick4 τ u0) (z + (kAbs (lPres τ 0 - lPres τ 1)).toInt64) := by
  unfold fTick4
  rw [show lPres (setE τ z) = lPres τ from rfl, show lNow (setE τ z) = lNow τ from rfl, show lWat (setE τ z) = lWat τ from rfl, show lSec (setE τ z) = sPut_errorSum (lSec τ) z from rfl, setE_sec]
  generalize fWsee (lWat τ) (lPres τ) (lNow τ) = q
  generalize fSecSee (lSec τ) (lPres τ 0) (lPres τ 1) (lPres τ 2 - u0) = r
  generalize (z + (kAbs (lPres τ 0 - lPres τ 1)).toInt64) = y
  rfl
theorem setE_m (τ : Lop) (z : Int64) (v : Sett) : fMove (setE τ z) v = setE (fMove τ v) z := by
  unfold fMove
  rfl
theorem fMove_p (σ : Lop) (v : Sett) {j : Nat} (h3 : j ≠ 3) (h8 : j ≠ 8) : lPres (fMove σ v) j = lPres σ j := by
  have e : ∀ i : Int64, fYx (lPres σ) v i j = lPres σ j := fun _ => by unfold fYx; rw [pk_un h3, pk_un h8]
  unfold fMove
  exact e _
theorem setE_tick (σ : Lop) (z : Int64) (v : Sett) (id : Int32) : fTick (setE σ z) v id = setE (fTick σ v id) (z + (kAbs (lPres (fTick σ v id) 0 - lPres (fTick σ v id) 1)).toInt64) := by
  unfold fTick
  rw [show lPres (setE σ z) = lPres σ from rfl, show lNow (setE σ z) = lNow σ from rfl, show lSeed (setE σ z) = lSeed σ from rfl, show lRecs (setE σ z) = lRecs σ from rfl, setE_1]
  generalize fTick1 σ v (lPres σ 8 + fNoise (lNow σ) (lSeed σ) (fGet v 14)) (fDelay (lNow σ) (lRecs σ) 3 (lPres σ 3) (fGet v 7)) = τ
  rw [setE_2, setE_3]
  generalize fTick3 (fTick2 τ v id) = ρ
  rw [setE_4, setE_m]
  have p0 : lPres (fMove (fTick4 ρ (lPres σ 2)) v) 0 = lPres ρ 0 := fMove_p (fTick4 ρ (lPres σ 2)) v (by decide) (by decide)
  have p1 : lPres (fMove (fTick4 ρ (lPres σ 2)) v) 1 = lPres ρ 1 := fMove_p (fTick4 ρ (lPres σ 2)) v (by decide) (by decide)
  rw [p0, p1]
