/-! SIMULATION: a tick keeps a loop and its row together -/
theorem nat_of {x : Int32} {M : Nat} (h : 0 ≤ x.toInt ∧ x.toInt ≤ (M : Int)) (hM : M < 2 ^ 31) : ∃ j : Nat, j ≤ M ∧ x = nI j := by
  obtain ⟨j, hj, rfl⟩ := nI_of (x := x) (by rw [zi_lt, zi0]; omega)
  rw [nI_toInt hj] at h
  exact ⟨j, by omega, rfl⟩
theorem XR_ext {x : Sec} {n m : mRow} {K : Nat} (h : XR x n K) (e : ∀ j : Nat, 641 ≤ j → j ≤ 659 → j ≠ 644 → j ≠ 645 → m j = n j) : XR x m K := by
  unfold XR at h ⊢
  rw [e 656 (by decide) (by decide) (by decide) (by decide), e 657 (by decide) (by decide) (by decide) (by decide), e 658 (by decide) (by decide) (by decide) (by decide), e 659 (by decide) (by decide) (by decide) (by decide), e 641 (by decide) (by decide) (by decide) (by decide), e 655 (by decide) (by decide) (by decide) (by decide)]
  exact h
theorem mod_ne {N t : Nat} (h1 : t < N) (h2 : N ≤ t + 63) : t % 64 ≠ N % 64 := by omega
theorem tkC_rest (n : mRow) (q : Nat → Int32) (d : Int64) (j : Nat) (h1 : j ≠ 653) (h2 : j ≠ 646) (h3 : j ≠ 648) (h4 : j ≠ 649) (h5 : j ≠ 650) : mTkC n q d j = n j := by
  unfold mTkC
  rw [jud_rest _ _ _ _ h3 h4 h5, pk_uLn h2, pk_uLn h1]
theorem tkF_rest (n : mRow) (q : Nat → Int32) (v : Int64) (j : Nat) (h1 : j ≠ 644) (h2 : j ≠ 645) (h3 : j ≠ 640) : mTkF n q v j = n j := by
  unfold mTkF
  rw [pk_uLn h3, pk_uLn h2, pk_uLn h1]
/-- the first half: measured value, prediction, mismatch, judging -/
theorem st_first {σ : Lop} {n : mRow} {v q : Nat → Int32} {id : Int32} {N : Nat} (h : LR σ n N) (hN : N < 900000) (hQ : QR v q id) :
    ∃ nB : mRow, mTkB (mTkA n q) = nB ∧ (∀ j : Nat, 640 ≤ j → j ≠ 652 → nB j = n j) ∧ (∀ s : Nat, s = 3 ∨ s = 8 → nB (64 * s + N % 64) = (lPres σ s).toInt64) ∧ (∀ j : Nat, j < 640 → j % 64 ≠ N % 64 → nB j = n j) ∧
      LJ (fTick1 σ v (lPres σ 8 + fNoise (lNow σ) (lSeed σ) (fGet v 14)) (fDelay (lNow σ) (lRecs σ) 3 (lPres σ 3) (fGet v 7))) (mTkC nB q (mDel nB 3 (q 7))) (N + 1) := by
  obtain ⟨hnow, h640, hload, hseed, hJ, hX, hW, hR, hok⟩ := h
  obtain ⟨hQ1, -, hv⟩ := hQ
  have hS := hJ.1
  have q14 := hQ1 14 (by decide) (by decide)
  have q7 := hQ1 7 (by decide) (by decide)
  have q8 := hQ1 8 (by decide) (by decide)
  have q12 := hQ1 12 (by decide) (by decide)
  have q13 := hQ1 13 (by decide) (by decide)
  have r7 := pR_7 hv
  have r8 := pR_8 hv
  have r13 := pR_13 hv
  have r14 := pR_14 hv
  obtain ⟨s8, s8a, s8b⟩ := hS 8 (by decide)
  obtain ⟨s3, s3a, s3b⟩ := hS 3 (by decide)
  obtain ⟨s5, s5a, s5b⟩ := hS 5 (by decide)
  have s8 : n 644 = (lPres σ 8).toInt64 := s8
  have s3 : n 645 = (lPres σ 3).toInt64 := s3
  have s5 : n 646 = (lPres σ 5).toInt64 := s5
  have s8a : -1000000 ≤ (lPres σ 8).toInt := s8a
  have s8b : (lPres σ 8).toInt ≤ 1000000 := s8b
  have s5a : -1503000 ≤ (lPres σ 5).toInt := s5a
  have s5b : (lPres σ 5).toInt ≤ 1503000 := s5b
  rw [fG_14, fG_7, hnow]
  -- the measured value
  obtain ⟨z1, z2, z3⟩ := z_noise (N := N) (sd := lSeed σ) (a := v 14) (by omega) r14
  have eNz : mNoise n q = (fNoise (nI N) (lSeed σ) (v 14)).toInt64 := by
    unfold mNoise
    rw [h640, hseed.1, ← q14]; exact z1
  generalize fNoise (nI N) (lSeed σ) (v 14) = z at z2 z3 eNz ⊢
  have em : n 644 + mNoise n q = (lPres σ 8 + z).toInt64 := by rw [s8, eNz, zw_add (by omega) (by omega)]
  have emT : (lPres σ 8 + z).toInt = (lPres σ 8).toInt + z.toInt := zi_add (by omega) (by omega)
  have emB : -1003000 ≤ (lPres σ 8 + z).toInt ∧ (lPres σ 8 + z).toInt ≤ 1003000 := by rw [emT]; omega
  generalize lPres σ 8 + z = mC at em emB ⊢
  have hSX : SP (upd (lPres σ) 1 mC) (vp_updL n 652 (n 644 + mNoise n q)) := SP_upd hS 1 (by decide) em emB.1 emB.2
  have eAB : mTkB (mTkA n q) = rcs [3, 8] (vp_updL n 652 (n 644 + mNoise n q)) := by
    have e : vp_updL n 652 (n 644 + mNoise n q) 645 = n 645 := pk_uLn (by decide)
    unfold mTkB mTkA
    rw [← e]; rfl
  obtain ⟨b1, b2, b3⟩ := rcs_ok (N := N) (by omega) [3, 8] (vp_updL n 652 (n 644 + mNoise n q)) (by decide) (by rw [pk_uLn (by decide)]; exact h640)
  rw [eAB]
  have hSB := SP_ext hSX (fun j h1 _ => b1 j (by omega))
  have k1 : ∀ j : Nat, 640 ≤ j → j ≠ 652 → rcs [3, 8] (vp_updL n 652 (n 644 + mNoise n q)) j = n j := fun j h1 h2 => by rw [b1 j h1, pk_uLn h2]
  have k2 : ∀ s : Nat, s = 3 ∨ s = 8 → rcs [3, 8] (vp_updL n 652 (n 644 + mNoise n q)) (64 * s + N % 64) = (lPres σ s).toInt64 := by
    intro s hs
    rcases hs with rfl | rfl
    · rw [b2 3 (by decide), show sIx 3 = 645 from rfl, pk_uLn (by decide)]; exact s3
    · rw [b2 8 (by decide), show sIx 8 = 644 from rfl, pk_uLn (by decide)]; exact s8
  have k3 : ∀ j : Nat, j < 640 → j % 64 ≠ N % 64 → rcs [3, 8] (vp_updL n 652 (n 644 + mNoise n q)) j = n j := by
    intro j h1 h2
    rw [b3 j (fun s _ he => h2 (by omega)), pk_uLn (by omega)]
  generalize rcs [3, 8] (vp_updL n 652 (n 644 + mNoise n q)) = nB at hSB k1 k2 k3
  refine ⟨nB, rfl, k1, k2, k3, ?_⟩
  -- the prediction
  obtain ⟨D, hD, eD⟩ := nat_of (M := 300) r7 (by decide)
  have pr := del_ok (r := lRecs σ) (n := nB) (s := 3) (d := D) (v := lPres σ 3) (N := N) (by omega) (by decide) hD (by rw [k1 640 (by decide) (by decide)]; exact h640)
    (fun t h1 h2 => by rw [k3 (64 * 3 + t % 64) (by omega) (by have := mod_ne h1 h2; omega)]; exact hR 3 (by decide) t h1 (by omega))
    (k2 3 (Or.inl rfl)) s3a s3b
  rw [← q7, eD]
  obtain ⟨p1, p2, p3⟩ := pr
  have p1 : mDel nB 3 (nI D) = (fDelay (nI N) (lRecs σ) 3 (lPres σ 3) (nI D)).toInt64 := p1
  have p2 : -500000 ≤ (fDelay (nI N) (lRecs σ) 3 (lPres σ 3) (nI D)).toInt := p2
  have p3 : (fDelay (nI N) (lRecs σ) 3 (lPres σ 3) (nI D)).toInt ≤ 500000 := p3
  rw [p1]
  generalize fDelay (nI N) (lRecs σ) 3 (lPres σ 3) (nI D) = pC at p2 p3 ⊢
  -- the mismatch
  have m652 : nB 652 = mC.toInt64 := by have := (hSB 1 (by decide)).1; rw [show sIx 1 = 652 from rfl, pk_us] at this; exact this
  have eMi : nB 652 - pC.toInt64 = (mC - pC).toInt64 := by rw [m652, zw_sub (by omega) (by omega)]
  have eMiT : (mC - pC).toInt = mC.toInt - pC.toInt := zi_sub (by omega) (by omega)
  have w8 : (1000 - v 8).toInt = 1000 - (v 8).toInt := zi_sub (by rw [show (1000 : Int32).toInt = 1000 from rfl]; omega) (by rw [show (1000 : Int32).toInt = 1000 from rfl]; omega)
  obtain ⟨f1, f2, f3⟩ := z_steps (s := (lPres σ 5).toInt64) (g := (mC - pC).toInt64) (w := 1000 - v 8) 1503000 (by decide) (by rw [Int32.toInt_toInt64]; omega) (by rw [Int32.toInt_toInt64, eMiT]; omega) (by rw [w8]; omega)
  unfold mTkC fTick1
  rw [eMi, fG_8, fG_12, fG_13, ← q8, k1 646 (by decide) (by decide), s5, f1]
  refine st_judge ?_ (by omega) (by rw [eMiT]; omega) q12.symm q13.symm r13
  refine ⟨SP_upd (SP_upd hSB 4 (by decide) rfl p2 p3) 5 (by decide) rfl f2 f3, ?_, ?_, ?_⟩
  · have k : ∀ y : Int32, upd (upd (upd (lPres σ) 1 mC) 4 pC) 5 y 9 = lPres σ 9 := fun y => by rw [pk_un (by decide), pk_un (by decide), pk_un (by decide)]
    rcases hJ.2.1 with a | a
    · exact Or.inl ((k (fStep (lPres σ 5).toInt64 (mC - pC).toInt64 (1000 - v 8).toInt64)).trans a)
    · exact Or.inr ((k (fStep (lPres σ 5).toInt64 (mC - pC).toInt64 (1000 - v 8).toInt64)).trans a)
  · rw [pk_uLn (by decide), pk_uLn (by decide), k1 649 (by decide) (by decide)]; exact hJ.2.2.1
  · rw [pk_uLn (by decide), pk_uLn (by decide), k1 650 (by decide) (by decide)]; exact hJ.2.2.2
theorem fTick1_rest (σ : Lop) (v : Sett) (m p : Int32) : lLoad (fTick1 σ v m p) = lLoad σ ∧ lSeed (fTick1 σ v m p) = lSeed σ ∧ lRecs (fTick1 σ v m p) = lRecs σ ∧ lSec (fTick1 σ v m p) = lSec σ ∧ lWat (fTick1 σ v m p) = lWat σ ∧ ∀ s : Nat, s ≠ 1 → s ≠ 4 → s ≠ 5 → s ≠ 9 → lPres (fTick1 σ v m p) s = lPres σ s := by
  unfold fTick1
  obtain ⟨-, a, b, c, d, e⟩ := fJudge_rest (lSetP σ (upd (upd (upd (lPres σ) 1 m) 4 p) 5 (fStep (lPres σ 5).toInt64 (m - p).toInt64 (1000 - fGet v 8).toInt64))) (fLoud (kAbs (m - p)) (fGet v 12)) (fGet v 13)
  refine ⟨a, b, c, d, e, fun s h1 h4 h5 h9 => ?_⟩
  rw [fJudge_pres _ _ _ _ h9]
  show upd (upd (upd (lPres σ) 1 m) 4 p) 5 _ s = lPres σ s
  rw [pk_un h5, pk_un h4, pk_un h1]
theorem st_tick {σ : Lop} {n : mRow} {v q : Nat → Int32} {id : Int32} {N : Nat} (h : LR σ n N) (hN : N < 900000) (hid : id = 0 ∨ id = 1) (hQ : QR v q id) : LR (fTick σ v id) (mTick n q id) (N + 1) := by
  obtain ⟨nB, eB, k1, k2, k3, hJ1⟩ := st_first h hN hQ
  obtain ⟨hnow, h640, hload, hseed, hJ, hX, hW, hR, hok⟩ := h
  have hok' := mOk_tick q id hok h640 (by omega)
  have hnow' := fTick_now σ v id
  have hS := hJ.1
  unfold mTick at hok' ⊢
  unfold fTick at hnow' ⊢
  rw [eB] at hok' ⊢
  obtain ⟨g1, g2, g3, g4, g5, g6⟩ := fTick1_rest σ v (lPres σ 8 + fNoise (lNow σ) (lSeed σ) (fGet v 14)) (fDelay (lNow σ) (lRecs σ) 3 (lPres σ 3) (fGet v 7))
  have g0 := fTick1_now σ v (lPres σ 8 + fNoise (lNow σ) (lSeed σ) (fGet v 14)) (fDelay (lNow σ) (lRecs σ) 3 (lPres σ 3) (fGet v 7))
  unfold mTk1 at hok' ⊢
  have c1 := tkC_rest nB q (mDel nB 3 (q 7))
  generalize fTick1 σ v (lPres σ 8 + fNoise (lNow σ) (lSeed σ) (fGet v 14)) (fDelay (lNow σ) (lRecs σ) 3 (lPres σ 3) (fGet v 7)) = σ1 at hJ1 g0 g1 g2 g3 g4 g5 g6 hnow' ⊢
  generalize mTkC nB q (mDel nB 3 (q 7)) = n1 at hJ1 c1 hok' ⊢
  -- control
  obtain ⟨t1, t2, t3⟩ := st_ctl hJ1.1 hJ1.2.1 hid hQ
  have c2 := ctl_rest n1 q id
  unfold fTick2 at hnow' ⊢
  generalize fCtl (lPres σ1) v id = p2 at t1 t2 t3 hnow' ⊢
  generalize mCtl n1 q id = n2 at t1 t3 c2 hok' ⊢
  have l2 : ∀ s : Nat, s = 3 ∨ s = 8 → p2 s = lPres σ s := by
    intro s hs
    rcases hs with rfl | rfl
    · rw [t2 3 (by decide) (by decide) (by decide), g6 3 (by decide) (by decide) (by decide) (by decide)]
    · rw [t2 8 (by decide) (by decide) (by decide), g6 8 (by decide) (by decide) (by decide) (by decide)]
  have u0 : lPres σ1 2 = lPres σ 2 := g6 2 (by decide) (by decide) (by decide) (by decide)
  have low2 : ∀ j : Nat, j < 640 → n2 j = nB j := fun j hj => by rw [c2 j (by omega) (by omega) (by omega) (by omega), c1 j (by omega) (by omega) (by omega) (by omega) (by omega)]
  have hi2 : ∀ j : Nat, 640 ≤ j → j ≠ 652 → j ≠ 653 → j ≠ 646 → j ≠ 648 → j ≠ 649 → j ≠ 650 → j ≠ 654 → j ≠ 651 → j ≠ 647 → j ≠ 657 → n2 j = n j := fun j h0 a1 a2 a3 a4 a5 a6 a7 a8 a9 b0 => by rw [c2 j a7 a8 a9 b0, c1 j a2 a3 a4 a5 a6, k1 j h0 a1]
  have h2_640 : n2 640 = lN N := by rw [hi2 640 (by decide) (by decide) (by decide) (by decide) (by decide) (by decide) (by decide) (by decide) (by decide) (by decide) (by decide)]; exact h640
  -- the records
  have eD : mTkD n2 = rcs [2] n2 := rfl
  have eE : ∀ m : mRow, m 640 = lN N → mTkE m = rcs [0, 1, 4, 5, 6, 7, 9] m := fun m _ => rfl
  obtain ⟨d1, d2, d3⟩ := rcs_ok (N := N) (by omega) [2] n2 (by decide) h2_640
  unfold mTk2 mTk3 at hok' ⊢
  rw [eD] at hok' ⊢
  generalize rcs [2] n2 = nD at d1 d2 d3 hok' ⊢
  have hD_640 : nD 640 = lN N := by rw [d1 640 (by decide)]; exact h2_640
  rw [eE nD hD_640] at hok' ⊢
  obtain ⟨e1, e2, e3⟩ := rcs_ok (N := N) (by omega) [0, 1, 4, 5, 6, 7, 9] nD (by decide) hD_640
  generalize rcs [0, 1, 4, 5, 6, 7, 9] nD = nE at e1 e2 e3 hok' ⊢
  have hE : ∀ j : Nat, 640 ≤ j → nE j = n2 j := fun j hj => (e1 j hj).trans (d1 j hj)
  have cur : ∀ s : Nat, s < 10 → nE (64 * s + N % 64) = (p2 s).toInt64 := by
    intro s hs
    by_cases m1 : s ∈ [0, 1, 4, 5, 6, 7, 9]
    · rw [e2 s m1, d1 _ (by have := (sIx_ge s hs).1; omega)]
      exact (t1 s hs).1
    · by_cases m2 : s = 2
      · subst m2
        rw [e3 _ (fun t ht he => m1 (by rw [show (2 : Nat) = t by omega]; exact ht)), d2 2 (by decide)]
        exact (t1 2 hs).1
      · have m3 : s = 3 ∨ s = 8 := by
          rcases (show s = 0 ∨ s = 1 ∨ s = 2 ∨ s = 3 ∨ s = 4 ∨ s = 5 ∨ s = 6 ∨ s = 7 ∨ s = 8 ∨ s = 9 by omega) with rfl | rfl | rfl | rfl | rfl | rfl | rfl | rfl | rfl | rfl
          all_goals first | exact Or.inl rfl | exact Or.inr rfl | exact absurd rfl m2 | exact absurd (by decide) m1
        rw [e3 _ (fun t ht he => m1 (by rw [show s = t by omega]; exact ht)), d3 _ (fun t ht he => m2 (by rw [List.mem_singleton] at ht; omega)), low2 _ (by omega), k2 s m3, l2 s m3]
  have old : ∀ j : Nat, j < 640 → j % 64 ≠ N % 64 → nE j = n j := by
    intro j h1 h2
    rw [e3 j (fun t _ he => h2 (by omega)), d3 j (fun t _ he => h2 (by omega)), low2 j h1, k3 j h1 h2]
  -- the class's records
  have eK : ∀ j : Nat, fKeep (nI N) p2 (lRecs σ) j = if j % 64 = N % 64 ∧ j / 64 < 10 then p2 (j / 64) else lRecs σ j := fKeepN_at (by omega) p2 (lRecs σ) 10 (by decide)
  have eKo : ∀ j : Nat, j % 64 ≠ N % 64 → fKeep (nI N) p2 (lRecs σ) j = lRecs σ j := fun j hj => by rw [eK, if_neg (fun q => hj q.1)]
  have eKn : ∀ s : Nat, s < 10 → fKeep (nI N) p2 (lRecs σ) (64 * s + N % 64) = p2 s := fun s hs => by rw [eK, if_pos (by omega), show (64 * s + N % 64) / 64 = s by omega]
  -- measures and watches
  have hSE : SP p2 nE := SP_ext t1 (fun j a _ => hE j (by omega))
  have cM := mea_rest nE
  obtain ⟨o0, o1, o2, o3, o4⟩ := hX
  obtain ⟨u2, u2a, u2b⟩ := hS 2 (by decide)
  have xr := st_mea (x := lSec σ) (p := p2) (n := nE) (u0 := lPres σ 2) (K := N) (by omega) hSE
    (by rw [hE 656 (by decide), hi2 656 (by decide) (by decide) (by decide) (by decide) (by decide) (by decide) (by decide) (by decide) (by decide) (by decide) (by decide)]; exact o0)
    (by rw [hE 657 (by decide), t3, c1 657 (by decide) (by decide) (by decide) (by decide) (by decide), k1 657 (by decide) (by decide), o1, u0]) ⟨u2a, u2b⟩
    (by rw [hE 658 (by decide), hi2 658 (by decide) (by decide) (by decide) (by decide) (by decide) (by decide) (by decide) (by decide) (by decide) (by decide) (by decide)]; exact o2)
    (by rw [hE 659 (by decide), hi2 659 (by decide) (by decide) (by decide) (by decide) (by decide) (by decide) (by decide) (by decide) (by decide) (by decide) (by decide)]; exact o3)
    (by rw [hE 641 (by decide), hE 655 (by decide), hi2 641 (by decide) (by decide) (by decide) (by decide) (by decide) (by decide) (by decide) (by decide) (by decide) (by decide) (by decide), hi2 655 (by decide) (by decide) (by decide) (by decide) (by decide) (by decide) (by decide) (by decide) (by decide) (by decide) (by decide)]; exact o4)
  have wr := st_wat (w := lWat σ) (p := p2) (n := mMea nE) (N := N) (by omega) (by rw [cM 640 (by decide) (by decide) (by decide), hE 640 (by decide)]; exact h2_640)
    (WR_ext hW (fun j hj => by rw [cM j (by omega) (by omega) (by omega), hE j (by omega), hi2 j (by omega) (by omega) (by omega) (by omega) (by omega) (by omega) (by omega) (by omega) (by omega) (by omega) (by omega)]))
    (fun s hs => by rw [cM _ (by omega) (by omega) (by omega)]; exact cur s hs)
  obtain ⟨wr1, wr2⟩ := wr
  generalize mMea nE = nM at xr wr1 wr2 cM hok' ⊢
  generalize mWat nM = n4 at wr1 wr2 hok' ⊢
  have h4 : ∀ j : Nat, j < 661 → j ≠ 658 → j ≠ 656 → j ≠ 659 → n4 j = nE j := fun j a b c d => (wr2 j a).trans (cM j b c d)
  -- v
  have dd : ∃ D : Nat, D ≤ 300 ∧ v 4 = nI D := nat_of (M := 300) (pR_4 hQ.2.2) (by decide)
  obtain ⟨D, hD, eDd⟩ := dd
  obtain ⟨b2, b2a, b2b⟩ := t1 2 (by decide)
  have dv := del_ok (r := fKeep (nI N) p2 (lRecs σ)) (n := nD) (s := 2) (d := D) (v := p2 2) (N := N) (by omega) (by decide) hD hD_640
    (fun t a b => by
      have hne := mod_ne a b
      rw [eKo (64 * 2 + t % 64) (by omega), d3 _ (fun s hs he => by rw [List.mem_singleton] at hs; omega), low2 _ (by omega), k3 _ (by omega) (by omega)]
      exact hR 2 (by decide) t a (by omega))
    (by rw [d2 2 (by decide)]; exact b2) b2a b2b
  rw [← eDd] at dv
  rw [← (show v 4 = mDd q id from hQ.2.1)] at hok' ⊢
  obtain ⟨dv1, dv2, dv3⟩ := dv
  have dv1 : mDel nD 2 (v 4) = (fDelay (nI N) (fKeep (nI N) p2 (lRecs σ)) 2 (p2 2) (v 4)).toInt64 := dv1
  have dv2 : -100000 ≤ (fDelay (nI N) (fKeep (nI N) p2 (lRecs σ)) 2 (p2 2) (v 4)).toInt := dv2
  have dv3 : (fDelay (nI N) (fKeep (nI N) p2 (lRecs σ)) 2 (p2 2) (v 4)).toInt ≤ 100000 := dv3
  rw [dv1] at hok' ⊢
  -- the move
  have hS4 : SP p2 n4 := SP_ext hSE (fun j a b => h4 j (by omega) (by omega) (by omega) (by omega))
  have h642 : n4 642 = n 642 := by rw [h4 642 (by decide) (by decide) (by decide) (by decide), hE 642 (by decide), hi2 642 (by decide) (by decide) (by decide) (by decide) (by decide) (by decide) (by decide) (by decide) (by decide) (by decide) (by decide)]
  have mv := st_move (L := lLoad σ) hS4 ⟨hQ.1, hQ.2.2⟩ ⟨dv2, dv3⟩ (by rw [h642]; exact hload)
  obtain ⟨mv1, mv2⟩ := mv
  have cF := tkF_rest n4 q (fDelay (nI N) (fKeep (nI N) p2 (lRecs σ)) 2 (p2 2) (v 4)).toInt64
  have eP : lPres (fMove (fTick4 (fTick3 (lSetP σ1 p2)) (lPres σ 2)) v) = fYx p2 v (fDelay (nI N) (fKeep (nI N) p2 (lRecs σ)) 2 (p2 2) (v 4) + lLoad σ).toInt64 := by
    show fYx p2 v (fDelay (lNow σ1) (fKeep (lNow σ1) p2 (lRecs σ1)) 2 (p2 2) (fGet v 4) + lLoad σ1).toInt64 = _
    rw [g0, hnow, g3, fG_4, g1]
  refine ⟨?_, hok'.2, ?_, ?_, ⟨?_, ?_, ?_, ?_⟩, ?_, ?_, ?_, hok'.1⟩
  · rw [hnow', hnow]; exact nI_1 N
  · show _ = (lLoad σ1).toInt64 ∧ -100000 ≤ (lLoad σ1).toInt ∧ (lLoad σ1).toInt ≤ 100000
    rw [g1, cF 642 (by decide) (by decide) (by decide), h642]; exact hload
  · show _ = (lSeed σ1).toInt64 ∧ 0 ≤ (lSeed σ1).toInt ∧ (lSeed σ1).toInt ≤ 9999
    rw [g2, cF 643 (by decide) (by decide) (by decide), h4 643 (by decide) (by decide) (by decide) (by decide), hE 643 (by decide), hi2 643 (by decide) (by decide) (by decide) (by decide) (by decide) (by decide) (by decide) (by decide) (by decide) (by decide) (by decide)]; exact hseed
  · rw [eP]; exact mv1
  · rw [eP, mv2 9 (by decide) (by decide), t2 9 (by decide) (by decide) (by decide)]; exact hJ1.2.1
  · show _ = (lBad σ1).toInt64 ∧ 0 ≤ (lBad σ1).toInt ∧ (lBad σ1).toInt ≤ _
    rw [cF 649 (by decide) (by decide) (by decide), h4 649 (by decide) (by decide) (by decide) (by decide), hE 649 (by decide), c2 649 (by decide) (by decide) (by decide) (by decide)]; exact hJ1.2.2.1
  · show _ = (lGood σ1).toInt64 ∧ 0 ≤ (lGood σ1).toInt ∧ (lGood σ1).toInt ≤ _
    rw [cF 650 (by decide) (by decide) (by decide), h4 650 (by decide) (by decide) (by decide) (by decide), hE 650 (by decide), c2 650 (by decide) (by decide) (by decide) (by decide)]; exact hJ1.2.2.2
  · show XR (fSecSee (lSec σ1) (p2 0) (p2 1) (p2 2 - lPres σ 2)) _ _
    rw [g4]
    exact XR_ext xr (fun j a b c d => by rw [cF j c d (by omega), wr2 j (by omega)])
  · show WR (fWsee (lWat σ1) p2 (lNow σ1)) _
    rw [g5, g0, hnow]
    exact WR_ext wr1 (fun j a => cF j (by omega) (by omega) (by omega))
  · show RR (fKeep (lNow σ1) p2 (lRecs σ1)) _ _
    rw [g0, hnow, g3]
    intro s hs t a b
    have fin : ∀ j : Nat, j < 640 → mTkF n4 q (fDelay (nI N) (fKeep (nI N) p2 (lRecs σ)) 2 (p2 2) (v 4)).toInt64 j = nE j := fun j hj => by rw [cF j (by omega) (by omega) (by omega), h4 j (by omega) (by omega) (by omega) (by omega)]
    rw [fin _ (by omega)]
    rcases Nat.lt_or_ge t N with c | c
    · have hne := mod_ne c (by omega)
      rw [old _ (by omega) (by omega), eKo _ (by omega)]
      exact hR s hs t c (by omega)
    · have et : t = N := by omega
      subst et
      rw [cur s hs, eKn s hs]
      exact ⟨rfl, (t1 s hs).2⟩
