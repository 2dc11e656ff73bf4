/-! SIMULATION: ticks, values, records, watches, measures, stored states -/
theorem s_run {x : Xst} {μ : Mst} (h : REL x μ) (t : Int32) : rRun x t = jRun μ t ∧ REL (gRun x t) (hRun μ t) := by
  have h0 := h
  obtain ⟨hS, hC, hT, ⟨N, hN, hL⟩, hK, hM⟩ := h
  have e : mIn t.toInt64 1 500 = if t < 1 then 0 else if 500 < t then 0 else 1 := mIn_i t 1 500
  unfold rRun jRun gRun hRun
  rw [e]
  by_cases c : t < 1
  · rw [if_pos c, if_pos c, if_pos c, if_pos rfl, if_pos rfl]; exact ⟨rfl, h0⟩
  · rw [if_neg c, if_neg c, if_neg c]
    by_cases c2 : t ≤ 500
    · rw [if_pos c2, if_pos c2, if_neg (Int32.not_lt.mpr c2), if_neg i32_10, if_neg i32_10]
      obtain ⟨t1, t2, t3⟩ := rngT c c2
      generalize t.toNatClampNeg = T at t1 t2 t3 ⊢
      subst t1
      have e1 : (nI T ≤ 100000 - lNow (xLoop x)) = (N + T ≤ 100000) := by
        rw [hL.1, zi_le, nI_toInt (by omega), show (100000 - nI N : Int32).toInt = (100000 : Int) - N from nI_subT (N := 100000) (by omega) (by omega)]
        exact propext ⟨fun q => by omega, fun q => by omega⟩
      have e2 : (mNow μ 640 + (nI T).toInt64 ≤ 100000) = (N + T ≤ 100000) := by
        rw [hL.2.1, nI_l (by omega), lN_add]
        exact propext (pk_lLE (a := N + T) (b := 100000) (by omega) (by decide))
      simp only [e1, e2]
      by_cases c3 : N + T ≤ 100000
      · rw [if_pos c3, if_pos c3, if_pos c3, if_pos c3, hM.2.2]
        have ad := LR_adv hS T N _ _ hL (by omega)
        exact ⟨by rw [ad.1, ad.2.1, lN_i], hS, hC, hT, ⟨N + T, c3, ad⟩, hK, hM⟩
      · rw [if_neg c3, if_neg c3, if_neg c3, if_neg c3]; exact ⟨rfl, h0⟩
    · rw [if_neg c2, if_neg c2, if_pos (Int32.not_le.mp c2), if_pos rfl, if_pos rfl]; exact ⟨rfl, h0⟩
theorem s_time {x : Xst} {μ : Mst} (h : REL x μ) : lNow (xLoop x) = (mNow μ 640).toInt32 := by
  obtain ⟨-, -, -, ⟨N, hN, hL⟩, -⟩ := h
  rw [hL.1, hL.2.1, lN_i]
theorem mPres_at {p : Nat → Int32} {n : mRow} (h : SP p n) {j : Nat} (hj : j < 10) : mPres n (nI j) = p j := by
  have e : mPres n (nI j) = (n (sIx j)).toInt32 := by
    rcases (show j = 0 ∨ j = 1 ∨ j = 2 ∨ j = 3 ∨ j = 4 ∨ j = 5 ∨ j = 6 ∨ j = 7 ∨ j = 8 ∨ j = 9 by omega) with rfl | rfl | rfl | rfl | rfl | rfl | rfl | rfl | rfl | rfl <;> rfl
  rw [e, (h j hj).1, Int32.toInt32_toInt64]
theorem s_value {x : Xst} {μ : Mst} (h : REL x μ) (s : Int32) : rValue x s = jValue μ s := by
  obtain ⟨-, -, -, ⟨N, hN, hL⟩, -⟩ := h
  unfold rValue jValue
  by_cases c : fSig s = 0
  · rw [if_pos c, if_pos c]
  · rw [if_neg c, if_neg c]
    obtain ⟨j, hj, rfl⟩ := vp_in_of (fSig_in c) (by decide)
    rw [nI_clamp (by omega), mPres_at hL.2.2.2.2.1.1 hj]
theorem s_recorded {x : Xst} {μ : Mst} (h : REL x μ) (s ago : Int32) : rRecorded x s ago = jRecorded μ s ago := by
  obtain ⟨-, -, -, ⟨N, hN, hL⟩, -⟩ := h
  have e : mIn ago.toInt64 0 63 = if ago < 0 then 0 else if 63 < ago then 0 else 1 := mIn_i ago 0 63
  unfold rRecorded jRecorded
  by_cases c : fSig s = 0
  · rw [if_pos c, if_pos c]
  · rw [if_neg c, if_neg c, e]
    obtain ⟨j, hj, rfl⟩ := vp_in_of (fSig_in c) (by decide)
    by_cases c1 : ago < 0
    · rw [if_pos c1, if_pos c1, if_pos rfl]
    · rw [if_neg c1, if_neg c1]
      obtain ⟨A, hA, rfl⟩ := nI_of c1
      have e64 : (nI A < 64) = (A < 64) := propext (nI_ltI (a := A) (b := 64) hA (by decide))
      have e63 : (63 < nI A) = (63 < A) := propext (nI_ltI (a := 63) (b := A) (by decide) hA)
      simp only [e64, e63]
      by_cases c2 : A < 64
      · rw [if_pos c2, if_neg (show ¬ 63 < A by omega), if_neg i32_10, hL.1, hL.2.1, nI_l hA]
        have e3 : (nI N ≤ nI A) = (N ≤ A) := propext (nI_leI (by omega) hA)
        have e4 : (lN N ≤ lN A) = (N ≤ A) := propext (lN_le (by omega) hA)
        simp only [e3, e4]
        by_cases c3 : N ≤ A
        · rw [if_pos c3, if_pos c3]
        · rw [if_neg c3, if_neg c3]
          have ea : ((nI N - 1) - nI A).toInt = (N : Int) - (A + 1 : Nat) := by
            rw [show (nI N - 1 : Int32) = nI (N - 1) from nI_pm (by omega), nI_subT (by omega) (by omega)]; omega
          have eb : ((lN N - 1) - lN A).toInt = (N : Int) - (A + 1 : Nat) := by
            rw [show (lN N - 1 : Int64) = lN (N - 1) from lN_sub (a := N) (b := 1) (by omega), lN_subT (by omega) (by omega)]; omega
          have := at_rec (s := j) (j := A + 1) hL.2.2.2.2.2.2.2.1 (by omega) hj (by omega) (by omega) ea eb
          rw [this.1, Int32.toInt32_toInt64]
      · rw [if_neg c2, if_pos (show 63 < A by omega), if_pos rfl]
theorem fZeroN_at (p : Nat → Int32) : ∀ k j : Nat, fZeroN p k j = if j < k then 0 else p j
  | 0, _ => rfl
  | k + 1, j => by
    show upd (fZeroN p k) k 0 j = _
    by_cases c : j = k
    · rw [c, pk_us, if_pos (by omega)]
    · rw [pk_un c, fZeroN_at p k j]
      by_cases d : j < k
      · rw [if_pos d, if_pos (by omega)]
      · rw [if_neg d, if_neg (by omega)]
theorem LR_zero (σ : Lop) (n : mRow) : LR (fBegin σ) (mZeroN n 681) 0 := by
  have z : ∀ j : Nat, j < 681 → mZeroN n 681 j = 0 := fun j hj => by rw [mZeroN_at, if_pos hj]
  have zz : (0 : Int64) = (0 : Int32).toInt64 := rfl
  refine ⟨rfl, z 640 (by decide), ⟨z 642 (by decide), (show (-100000 : Int) ≤ (0 : Int32).toInt by decide), (show (0 : Int32).toInt ≤ (100000 : Int) by decide)⟩, ⟨z 643 (by decide), (show (0 : Int) ≤ (0 : Int32).toInt by decide), (show (0 : Int32).toInt ≤ (9999 : Int) by decide)⟩, ⟨fun s hs => ?_, Or.inl ?_, ⟨z 649 (by decide), (show (0 : Int) ≤ (0 : Int32).toInt by decide), (show (0 : Int32).toInt ≤ ((0 : Nat) : Int) by decide)⟩, ⟨z 650 (by decide), (show (0 : Int) ≤ (0 : Int32).toInt by decide), (show (0 : Int32).toInt ≤ ((0 : Nat) : Int) by decide)⟩⟩, ⟨z 656 (by decide), z 657 (by decide), ⟨z 658 (by decide), (show (0 : Int) ≤ (0 : Int32).toInt by decide), (show (0 : Int32).toInt ≤ (1103000 : Int) by decide)⟩, ⟨z 659 (by decide), (show (0 : Int) ≤ (0 : Int32).toInt by decide), (show (0 : Int32).toInt ≤ ((0 : Nat) : Int) by decide)⟩, Or.inr ⟨rfl, ?_⟩⟩, ⟨0, by decide, rfl, z 660 (by decide), fun j hj => absurd hj (by omega)⟩, fun s hs t a b => absurd a (by omega), ?_⟩
  · have e : lPres (fBegin σ) s = 0 := by show fZeroN (lPres σ) 10 s = 0; rw [fZeroN_at, if_pos hs]
    have := sBd_le s hs
    rw [e, z _ (by have := (sIx_ge s hs).2; omega)]
    exact ⟨rfl, by rw [zi0]; omega, by rw [zi0]; omega⟩
  · show fZeroN (lPres σ) 10 9 = 0
    rw [fZeroN_at, if_pos (by decide)]
  · rw [z 641 (by decide), z 655 (by decide)]; decide
  · refine ⟨by rw [z 640 (by decide)]; decide, 0, by decide, by rw [z 660 (by decide)]; rfl, fun j hj => ?_⟩
    rw [z (661 + 5 * j) (by omega)]
    exact vp_in_nI (n := 0) (by decide) (by decide)
theorem s_restart {x : Xst} {μ : Mst} (h : REL x μ) : lNow (xLoop x) = (mNow μ 640).toInt32 ∧ REL (gRestart x) (hRestart μ) := by
  refine ⟨s_time h, ?_⟩
  obtain ⟨hS, hC, hT, -, ⟨K, -, -, -, -, -, b1, b2⟩, hM⟩ := h
  exact ⟨hS, hC, hT, ⟨0, by decide, LR_zero _ _⟩, ⟨0, by decide, rfl, rfl, fun q => absurd q (by decide), fun q => absurd q (by decide), b1, b2⟩, hM⟩
/-! watches -/
theorem pl_relN {w : Wat} {n : mRow} {W : Nat} {s : Int32} (hW : W ≤ 4) (h1 : wCnt w = nI W) (h2 : n 660 = lN W) (h3 : ∀ j : Nat, j < W → wP w n j) : ∀ k j : Nat, j + k ≤ 5 → j ≤ W → W < j + k → (fPlaceN (wCnt w) (wSig w) s k j = -1 ∧ mPlaceN n s k j = -2000000004) ∨ ∃ p : Nat, p < W ∧ fPlaceN (wCnt w) (wSig w) s k j = nI p ∧ mPlaceN n s k j = nI p ∧ wSig w p = s
  | 0, j, _, a, b => absurd b (by omega)
  | k + 1, j, h5, a, b => by
    rw [mPlaceN_s]
    show ((if wCnt w ≤ nI j then (-1 : Int32) else if 4 ≤ nI j then -1 else if wSig w j = s then nI j else fPlaceN (wCnt w) (wSig w) s k (j + 1)) = -1 ∧ _) ∨ ∃ p : Nat, p < W ∧ (if wCnt w ≤ nI j then (-1 : Int32) else if 4 ≤ nI j then -1 else if wSig w j = s then nI j else fPlaceN (wCnt w) (wSig w) s k (j + 1)) = nI p ∧ _
    rw [h1, h2, nI_l (by omega)]
    have e1 : (nI W ≤ nI j) = (W ≤ j) := propext (nI_leI (by omega) (by omega))
    have e2 : (lN W ≤ lN j) = (W ≤ j) := propext (lN_le (by omega) (by omega))
    simp only [e1, e2]
    by_cases c : W ≤ j
    · rw [if_pos c, if_pos c]; exact Or.inl ⟨rfl, rfl⟩
    · rw [if_neg c, if_neg c, if_neg (show ¬ (4 : Int32) ≤ nI j from nI_ge (a := j) (b := 4) (by omega) (by decide))]
      have hj := h3 j (by omega)
      rw [hj.2.1]
      simp only [l64_inj]
      by_cases c2 : wSig w j = s
      · rw [if_pos c2, if_pos c2]; exact Or.inr ⟨j, by omega, rfl, rfl, c2⟩
      · rw [if_neg c2, if_neg c2]
        have := pl_relN (s := s) hW h1 h2 h3 k (j + 1) (by omega) (by omega) (by omega)
        rw [h1] at this
        exact this
theorem pl_rel {w : Wat} {n : mRow} {W : Nat} (s : Int32) (hW : W ≤ 4) (h1 : wCnt w = nI W) (h2 : n 660 = lN W) (h3 : ∀ j : Nat, j < W → wP w n j) : (fPlace (wCnt w) (wSig w) s = -1 ∧ mPlace n s = -2000000004) ∨ ∃ p : Nat, p < W ∧ fPlace (wCnt w) (wSig w) s = nI p ∧ mPlace n s = nI p ∧ wSig w p = s :=
  pl_relN hW h1 h2 h3 5 0 (by omega) (by omega) (by omega)
theorem LR_wat {σ : Lop} {n m : mRow} {N : Nat} {w : Wat} (h : LR σ n N) (e : ∀ j : Nat, j < 660 → m j = n j) (hw : WR w m) (ho : mOk m) : LR (lPut_watches σ w) m N := by
  obtain ⟨h1, h2, h3, h4, ⟨h5, h6, h7, h8⟩, h9, h10, h11, h12⟩ := h
  exact ⟨h1, (e 640 (by decide)).trans h2, by rw [e 642 (by decide)]; exact h3, by rw [e 643 (by decide)]; exact h4, ⟨SP_ext h5 (fun j _ b => e j (by omega)), h6, by rw [e 649 (by decide)]; exact h7, by rw [e 650 (by decide)]; exact h8⟩, XR_ext h9 (fun j _ b _ _ => e j (by omega)), hw, fun s hs t a b => by rw [e _ (by omega)]; exact h11 s hs t a b, ho⟩
theorem mOk_w {n m : mRow} {W : Nat} (hW : W ≤ 4) (h0 : m 640 = n 640) (h1 : m 660 = lN W) (h2 : ∀ j : Nat, j < 4 → vp_in (m (661 + 5 * j)).toInt32 10) (h : mOk n) : mOk m := ⟨by rw [h0]; exact h.1, W, hW, h1, h2⟩
theorem wP_ext {w w' : Wat} {n m : mRow} {i j : Nat} (h : wP w n i) (e1 : wSig w' j = wSig w i) (e2 : wLeast w' j = wLeast w i) (e3 : wGreat w' j = wGreat w i) (e4 : wGtick w' j = wGtick w i) (m0 : m (661 + 5 * j) = n (661 + 5 * i)) (m1 : m (661 + 5 * j + 1) = n (661 + 5 * i + 1)) (m2 : m (661 + 5 * j + 2) = n (661 + 5 * i + 2)) (m3 : m (661 + 5 * j + 3) = n (661 + 5 * i + 3)) (m4 : m (661 + 5 * j + 4) = n (661 + 5 * i + 4)) : wP w' m j := by
  unfold wP at h ⊢
  rw [e1, e2, e3, e4, m0, m1, m2, m3, m4]; exact h
/-- a signal put at a place -/
theorem wAt_ok {w : Wat} {n : mRow} {W p V : Nat} {s : Int32} (hs : vp_in s 10) (hp : p < 4) (hV : V ≤ 4) (hpV : p < V) (h2 : n 660 = lN V) (h3 : ∀ j : Nat, j < V → j ≠ p → wP w n j) (ho : mOk n) : WR (wAddAt w p s (nI V)) (mWatchAt n (nI p) s) ∧ mOk (mWatchAt n (nI p) s) ∧ (∀ j : Nat, j ≤ 660 → mWatchAt n (nI p) s j = n j) := by
  have e : mWatchAt n (nI p) s = vp_updL (vp_updL n (661 + 5 * p) s.toInt64) (661 + 5 * p + 1) 0 := by unfold mWatchAt; rw [nI_clamp (by omega)]
  rw [e]
  have rest : ∀ j : Nat, j ≠ 661 + 5 * p → j ≠ 661 + 5 * p + 1 → vp_updL (vp_updL n (661 + 5 * p) s.toInt64) (661 + 5 * p + 1) 0 j = n j := fun j a b => by rw [pk_uLn b, pk_uLn a]
  refine ⟨⟨V, hV, rfl, by rw [rest 660 (by omega) (by omega)]; exact h2, fun j hj => ?_⟩, mOk_w hV (rest 640 (by omega) (by omega)) (by rw [rest 660 (by omega) (by omega)]; exact h2) (fun j hj => ?_) ho, fun j hj => rest j (by omega) (by omega)⟩
  · by_cases c : j = p
    · subst c
      refine ⟨?_, ?_, Or.inl ⟨?_, ?_⟩⟩
      · show vp_in (upd (wSig w) j s j) 10; rw [pk_us]; exact hs
      · show _ = (upd (wSig w) j s j).toInt64; rw [pk_us, pk_uLn (by omega), pk_uLs]
      · rw [pk_uLs]
      · show upd (wGtick w) j (-1) j = -1; rw [pk_us]
    · exact wP_ext (h3 j hj c) (pk_un c) rfl rfl (pk_un c) (rest _ (by omega) (by omega)) (rest _ (by omega) (by omega)) (rest _ (by omega) (by omega)) (rest _ (by omega) (by omega)) (rest _ (by omega) (by omega))
  · by_cases c : j = p
    · subst c
      rw [pk_uLn (by omega), pk_uLs, Int32.toInt32_toInt64]; exact hs
    · rw [rest _ (by omega) (by omega)]
      obtain ⟨-, -, -, -, h4⟩ := ho
      exact h4 j hj
theorem s_watch {x : Xst} {μ : Mst} (h : REL x μ) (s : Int32) : rWatch x s = jWatch μ s ∧ REL (gWatch x s) (hWatch μ s) := by
  have h0 := h
  obtain ⟨hS, hC, hT, ⟨N, hN, hL⟩, hK, hM⟩ := h
  unfold rWatch jWatch gWatch hWatch
  by_cases c : fSig s = 0
  · rw [if_pos c, if_pos c, if_pos c, if_pos c]; exact ⟨rfl, h0⟩
  · rw [if_neg c, if_neg c, if_neg c, if_neg c]
    have hs := fSig_in c
    obtain ⟨W, w1, w2, w3, w4⟩ := hL.2.2.2.2.2.2.1
    have hok := hL.2.2.2.2.2.2.2.2
    rcases pl_rel s w1 w2 w3 w4 with ⟨a, b⟩ | ⟨p, hp, a, b, -⟩
    · rw [a, b]
      unfold fAdd jWatch1 mWatchRow
      rw [a, if_neg (show ¬ (0 : Int32) ≤ -2000000004 by decide), if_neg (show ¬ (0 : Int32) ≤ -2000000004 by decide)]
      unfold fAdd1 fAddR
      rw [if_pos rfl, if_pos rfl, w2, w3]
      by_cases c4 : W = 4
      · subst c4
        rw [if_neg (show ¬ nI 4 < 4 by decide), if_neg (show ¬ nI 4 < 4 by decide), if_pos rfl, if_pos (show lN 4 = 4 from rfl), if_pos (show lN 4 = 4 from rfl)]
        exact ⟨rfl, hS, hC, hT, ⟨N, hN, hL⟩, hK, hM⟩
      · have lt4 : nI W < 4 := nI_lt (a := W) (b := 4) (by omega) (by decide)
        have ne4 : ¬ lN W = 4 := fun q => c4 ((lN_eq (a := W) (b := 4) (by omega) (by decide)).mp q)
        rw [if_pos lt4, if_pos lt4, if_neg i32_10, if_neg ne4, if_neg ne4, lN_i, nI_clamp (by omega), nI_1, lN_1]
        obtain ⟨r1, r2, r3⟩ := wAt_ok (w := lWat (xLoop x)) (n := vp_updL (mNow μ) 660 (lN (W + 1))) (p := W) (V := W + 1) (W := W) hs (by omega) (by omega) (by omega) pk_uLs
          (fun j hj hj2 => wP_ext (w4 j (by omega)) rfl rfl rfl rfl (pk_uLn (by omega)) (pk_uLn (by omega)) (pk_uLn (by omega)) (pk_uLn (by omega)) (pk_uLn (by omega)))
          (mOk_w (W := W + 1) (by omega) (pk_uLn (by decide)) pk_uLs (fun j hj => by rw [pk_uLn (by omega)]; obtain ⟨-, -, -, -, h4⟩ := hok; exact h4 j hj) hok)
        refine ⟨?_, hS, hC, hT, ⟨N, hN, LR_wat (m := mWatchAt (vp_updL (mNow μ) 660 (lN (W + 1))) (nI W) s) hL (fun j hj => by rw [r3 j (by omega), pk_uLn (by omega)]) r1 r2⟩, hK, hM⟩
        rw [r3 660 (by omega), pk_uLs, lN_i]; rfl
    · rw [a, b]
      unfold fAdd jWatch1 mWatchRow
      rw [a, if_pos (show (0 : Int32) ≤ nI p from nI_pos' (by omega)), if_pos (show (0 : Int32) ≤ nI p from nI_pos' (by omega))]
      unfold fAdd1 fAddR
      rw [if_neg (m1_ne (by omega)), if_neg (m1_ne (by omega)), if_neg i32_10, w2, nI_clamp (by omega)]
      obtain ⟨r1, r2, r3⟩ := wAt_ok (w := lWat (xLoop x)) (n := mNow μ) (p := p) (V := W) (W := W) hs (by omega) w1 hp w3 (fun j hj _ => w4 j hj) hok
      refine ⟨?_, hS, hC, hT, ⟨N, hN, LR_wat (m := mWatchAt (mNow μ) (nI p) s) hL (fun j hj => r3 j (by omega)) r1 r2⟩, hK, hM⟩
      rw [r3 660 (by omega), w3, lN_i]; rfl
theorem shift_at {W : Nat} (hW : W ≤ 4) : ∀ (n i : Nat) (w : Wat), wCnt w = nI W → 1 ≤ i → i ≤ W → W < i + n → wCnt (fShiftN n i w) = nI W ∧ ∀ j : Nat, (i - 1 ≤ j → j + 1 < W → wSig (fShiftN n i w) j = wSig w (j + 1) ∧ wLeast (fShiftN n i w) j = wLeast w (j + 1) ∧ wGreat (fShiftN n i w) j = wGreat w (j + 1) ∧ wGtick (fShiftN n i w) j = wGtick w (j + 1)) ∧ (j < i - 1 → wSig (fShiftN n i w) j = wSig w j ∧ wLeast (fShiftN n i w) j = wLeast w j ∧ wGreat (fShiftN n i w) j = wGreat w j ∧ wGtick (fShiftN n i w) j = wGtick w j)
  | 0, i, w, _, _, a, b => absurd b (by omega)
  | n + 1, i, w, hc, h1, h2, h3 => by
    rw [fShiftN_s, hc]
    have e1 : (nI W ≤ nI i) = (W ≤ i) := propext (nI_leI (by omega) (by omega))
    simp only [e1]
    by_cases c : W ≤ i
    · rw [if_pos c]
      exact ⟨hc, fun j => ⟨fun a b => by omega, fun _ => ⟨rfl, rfl, rfl, rfl⟩⟩⟩
    · rw [if_neg c, if_neg (show ¬ (4 : Int32) ≤ nI i from nI_ge (a := i) (b := 4) (by omega) (by decide))]
      obtain ⟨r0, r⟩ := shift_at hW n (i + 1) (fShift1 w i) hc (by omega) (by omega) (by omega)
      refine ⟨r0, fun j => ⟨fun a b => ?_, fun a => ?_⟩⟩
      · by_cases cj : j = i - 1
        · obtain ⟨q1, q2, q3, q4⟩ := (r j).2 (by omega)
          rw [q1, q2, q3, q4]
          unfold fShift1
          subst cj
          show upd (wSig w) (i - 1) (wSig w i) (i - 1) = _ ∧ upd (wLeast w) (i - 1) (wLeast w i) (i - 1) = _ ∧ upd (wGreat w) (i - 1) (wGreat w i) (i - 1) = _ ∧ upd (wGtick w) (i - 1) (wGtick w i) (i - 1) = _
          rw [pk_us, pk_us, pk_us, pk_us, show i - 1 + 1 = i by omega]
          exact ⟨rfl, rfl, rfl, rfl⟩
        · obtain ⟨q1, q2, q3, q4⟩ := (r j).1 (by omega) b
          rw [q1, q2, q3, q4]
          unfold fShift1
          show upd (wSig w) (i - 1) (wSig w i) (j + 1) = _ ∧ upd (wLeast w) (i - 1) (wLeast w i) (j + 1) = _ ∧ upd (wGreat w) (i - 1) (wGreat w i) (j + 1) = _ ∧ upd (wGtick w) (i - 1) (wGtick w i) (j + 1) = _
          rw [pk_un (by omega), pk_un (by omega), pk_un (by omega), pk_un (by omega)]
          exact ⟨rfl, rfl, rfl, rfl⟩
      · obtain ⟨q1, q2, q3, q4⟩ := (r j).2 (by omega)
        rw [q1, q2, q3, q4]
        unfold fShift1
        show upd (wSig w) (i - 1) (wSig w i) j = _ ∧ upd (wLeast w) (i - 1) (wLeast w i) j = _ ∧ upd (wGreat w) (i - 1) (wGreat w i) j = _ ∧ upd (wGtick w) (i - 1) (wGtick w i) j = _
        rw [pk_un (by omega), pk_un (by omega), pk_un (by omega), pk_un (by omega)]
        exact ⟨rfl, rfl, rfl, rfl⟩
theorem unw_at {V : Nat} (hV : V ≤ 4) : ∀ (k i : Nat) (n : mRow), n 660 = lN V → 661 ≤ i → i ≤ 700 → 661 + 5 * V < i + k → ∀ j : Nat, mUnwN k i n j = if i ≤ j ∧ j < 661 + 5 * V then n (j + 5) else n j
  | 0, i, n, _, _, _, h, j => by rw [if_neg (by omega)]; rfl
  | k + 1, i, n, h0, h1, h7, h2, j => by
    rw [mUnwN_s, h0, nI_l (by omega), show (661 : Int64) = lN 661 from rfl, show (5 : Int64) = lN 5 from rfl, lN_mul, lN_add]
    have e : (lN (661 + 5 * V) ≤ lN i) = (661 + 5 * V ≤ i) := propext (lN_le (by omega) (by omega))
    simp only [e]
    by_cases c : 661 + 5 * V ≤ i
    · rw [if_pos c, if_neg (by omega)]
    · rw [if_neg c, unw_at hV k (i + 1) (vp_updL n i (n (i + 5))) (by rw [pk_uLn (by omega)]; exact h0) (by omega) (by omega) (by omega) j]
      by_cases d : i + 1 ≤ j ∧ j < 661 + 5 * V
      · rw [if_pos d, if_pos (by omega), pk_uLn (by omega)]
      · rw [if_neg d]
        by_cases ej : j = i
        · rw [ej, pk_uLs, if_pos (by omega)]
        · rw [pk_uLn ej, if_neg (by omega)]
theorem s_unwatch {x : Xst} {μ : Mst} (h : REL x μ) (s : Int32) : rUnwatch x s = jUnwatch μ s ∧ REL (gUnwatch x s) (hUnwatch μ s) := by
  have h0 := h
  obtain ⟨hS, hC, hT, ⟨N, hN, hL⟩, hK, hM⟩ := h
  unfold rUnwatch jUnwatch gUnwatch hUnwatch
  by_cases c : fSig s = 0
  · rw [if_pos c, if_pos c, if_pos c, if_pos c]; exact ⟨rfl, h0⟩
  · rw [if_neg c, if_neg c, if_neg c, if_neg c]
    obtain ⟨W, w1, w2, w3, w4⟩ := hL.2.2.2.2.2.2.1
    have hok := hL.2.2.2.2.2.2.2.2
    rcases pl_rel s w1 w2 w3 w4 with ⟨a, b⟩ | ⟨p, hp, a, b, -⟩
    · rw [a, b, if_neg (show ¬ (0 : Int32) ≤ -2000000004 by decide), if_neg (show ¬ (0 : Int32) ≤ -2000000004 by decide)]
      unfold fRemR fRemove
      rw [if_pos rfl, if_pos rfl, a]
      unfold fRemove1
      rw [if_pos rfl]
      exact ⟨rfl, hS, hC, hT, ⟨N, hN, hL⟩, hK, hM⟩
    · rw [a, b, if_pos (show (0 : Int32) ≤ nI p from nI_pos' (by omega)), if_pos (show (0 : Int32) ≤ nI p from nI_pos' (by omega))]
      unfold fRemR fRemove
      rw [if_neg (m1_ne (by omega)), if_neg i32_10, a]
      unfold fRemove1
      rw [if_neg (m1_ne (by omega)), nI_clamp (by omega)]
      obtain ⟨r0, r⟩ := shift_at w1 5 (p + 1) (lWat (xLoop x)) w2 (by omega) (by omega) (by omega)
      have e660 : mNow μ 660 - 1 = lN (W - 1) := by rw [w3]; exact lN_sub (b := 1) (by omega)
      have u := unw_at (V := W - 1) (by omega) 21 (661 + 5 * p) (vp_updL (mNow μ) 660 (mNow μ 660 - 1)) (by rw [pk_uLs]; exact e660) (by omega) (by omega) (by omega)
      have eU : mUnwRow (mNow μ) (nI p) = mUnwN 21 (661 + 5 * p) (vp_updL (mNow μ) 660 (mNow μ 660 - 1)) := by unfold mUnwRow; rw [nI_clamp (by omega)]
      rw [eU]
      generalize fShiftN 5 (p + 1) (lWat (xLoop x)) = w' at r0 r ⊢
      generalize mUnwN 21 (661 + 5 * p) (vp_updL (mNow μ) 660 (mNow μ 660 - 1)) = m at u ⊢
      have m660 : m 660 = lN (W - 1) := by rw [u 660, if_neg (by omega), pk_uLs]; exact e660
      have lo : ∀ j : Nat, j ≠ 660 → j < 661 + 5 * p → m j = mNow μ j := fun j a b => by rw [u j, if_neg (by omega), pk_uLn a]
      have mid : ∀ j : Nat, 661 + 5 * p ≤ j → j < 661 + 5 * (W - 1) → m j = mNow μ (j + 5) := fun j a b => by rw [u j, if_pos ⟨a, b⟩, pk_uLn (by omega)]
      have hi' : ∀ j : Nat, 661 + 5 * (W - 1) ≤ j → m j = mNow μ j := fun j a => by rw [u j, if_neg (by omega), pk_uLn (by omega)]
      have hcnt : wCnt (wDec w') = nI (W - 1) := by show wCnt w' - 1 = _; rw [r0]; exact nI_pm (by omega)
      refine ⟨by rw [m660, lN_i]; exact hcnt, hS, hC, hT, ⟨N, hN, LR_wat (m := m) hL (fun j hj => lo j (by omega) (by omega)) ⟨W - 1, by omega, hcnt, m660, fun j hj => ?_⟩ ?_⟩, hK, hM⟩
      · rcases Nat.lt_or_ge j p with q | q
        · obtain ⟨q1, q2, q3, q4⟩ := (r j).2 (by omega)
          exact wP_ext (w4 j (by omega)) q1 q2 q3 q4 (lo _ (by omega) (by omega)) (lo _ (by omega) (by omega)) (lo _ (by omega) (by omega)) (lo _ (by omega) (by omega)) (lo _ (by omega) (by omega))
        · obtain ⟨q1, q2, q3, q4⟩ := (r j).1 (by omega) (by omega)
          refine wP_ext (i := j + 1) (w4 (j + 1) (by omega)) q1 q2 q3 q4 ?_ ?_ ?_ ?_ ?_
          · rw [mid _ (by omega) (by omega)]; congr 1
          · rw [mid _ (by omega) (by omega)]; congr 1
          · rw [mid _ (by omega) (by omega)]; congr 1
          · rw [mid _ (by omega) (by omega)]; congr 1
          · rw [mid _ (by omega) (by omega)]; congr 1
      · refine mOk_w (W := W - 1) (by omega) (lo 640 (by omega) (by omega)) m660 (fun j hj => ?_) hok
        obtain ⟨-, -, -, -, h4⟩ := hok
        rcases Nat.lt_or_ge j p with q | q
        · rw [lo _ (by omega) (by omega)]; exact h4 j hj
        · rcases Nat.lt_or_ge j (W - 1) with q2 | q2
          · rw [mid _ (by omega) (by omega), show 661 + 5 * j + 5 = 661 + 5 * (j + 1) by omega]; exact h4 (j + 1) (by omega)
          · rw [hi' _ (by omega)]; exact h4 j hj
theorem s_watchedAt {x : Xst} {μ : Mst} (h : REL x μ) (i : Int32) : rWatchedAt x i = jWatchedAt μ i := by
  obtain ⟨-, -, -, ⟨N, hN, hL⟩, -⟩ := h
  obtain ⟨W, w1, w2, w3, w4⟩ := hL.2.2.2.2.2.2.1
  unfold rWatchedAt jWatchedAt
  by_cases c : 0 ≤ i
  · rw [if_pos c, if_pos c, w2, w3]
    obtain ⟨j, hj, rfl⟩ := nI_of (Int32.not_lt.mpr c)
    rw [nI_l hj]
    have e1 : (nI W ≤ nI j) = (W ≤ j) := propext (nI_leI (by omega) hj)
    have e2 : (lN W ≤ lN j) = (W ≤ j) := propext (lN_le (by omega) hj)
    simp only [e1, e2]
    by_cases c2 : W ≤ j
    · rw [if_pos c2, if_pos c2]
    · rw [if_neg c2, if_neg c2, if_neg (show ¬ (4 : Int32) ≤ nI j from nI_ge (a := j) (b := 4) (by omega) (by decide)), nI_clamp (by omega), (w4 j (by omega)).2.1, Int32.toInt32_toInt64]
  · rw [if_neg c, if_neg c]
theorem s_extreme {x : Xst} {μ : Mst} (h : REL x μ) (s what : Int32) : rExtreme x s what = jExtreme μ s what := by
  obtain ⟨-, -, -, ⟨N, hN, hL⟩, -⟩ := h
  obtain ⟨W, w1, w2, w3, w4⟩ := hL.2.2.2.2.2.2.1
  have e : mIn what.toInt64 0 2 = if what < 0 then 0 else if 2 < what then 0 else 1 := mIn_i what 0 2
  unfold rExtreme jExtreme
  by_cases c : fSig s = 0
  · rw [if_pos c, if_pos c]
  · rw [if_neg c, if_neg c, e]
    by_cases c1 : what < 0
    · rw [if_pos c1, if_pos c1, if_pos rfl]
    · rw [if_neg c1, if_neg c1]
      by_cases c2 : what ≤ 2
      · rw [if_pos c2, if_neg (Int32.not_lt.mpr c2), if_neg i32_10]
        obtain ⟨q, hq, rfl⟩ := nI_of c1
        have hq2 : q ≤ 2 := (nI_leI (a := q) (b := 2) hq (by decide)).mp c2
        unfold rExtreme1 jExtreme1
        rcases pl_rel s w1 w2 w3 w4 with ⟨a, b⟩ | ⟨p, hp, a, b, -⟩
        · rw [a, b, if_pos rfl, if_neg (show ¬ (0 : Int32) ≤ -2000000004 by decide)]
        · rw [a, b, if_neg (m1_ne (by omega)), if_pos (show (0 : Int32) ≤ nI p from nI_pos' (by omega)), nI_clamp (by omega), nI_clamp hq]
          unfold fSeen fWget
          rw [if_neg (nI_pos (by omega)), if_neg (show ¬ (4 : Int32) ≤ nI p from nI_ge (a := p) (b := 4) (by omega) (by decide)), if_neg (nI_pos (by omega)), if_pos (show nI p < (4 : Int32) from nI_lt (a := p) (b := 4) (by omega) (by decide)), nI_clamp (by omega)]
          obtain ⟨-, -, d⟩ := w4 p hp
          rcases d with ⟨d1, d2⟩ | ⟨d1, d2, d3, d4, d5⟩
          · rw [if_pos d2, if_pos rfl, if_pos d1]
          · rw [if_neg d2, if_neg i32_10, if_neg (show ¬ mNow μ (661 + 5 * p + 1) = 0 by rw [d1]; decide)]
            rcases (show q = 0 ∨ q = 1 ∨ q = 2 by omega) with rfl | rfl | rfl
            · rw [if_pos (show nI 0 = 0 from rfl), Nat.add_zero, d3, Int32.toInt32_toInt64]
            · rw [if_neg (show ¬ nI 1 = 0 by decide), if_pos (show nI 1 = 1 from rfl), d4, Int32.toInt32_toInt64]
            · rw [if_neg (show ¬ nI 2 = 0 by decide), if_neg (show ¬ nI 2 = 1 by decide), d5, Int32.toInt32_toInt64]
      · rw [if_neg c2, if_pos (Int32.not_le.mp c2), if_pos rfl]
theorem s_measure {x : Xst} {μ : Mst} (h : REL x μ) (k : Int32) : rMeasure x k = jMeasure μ k := by
  obtain ⟨-, -, -, ⟨N, hN, hL⟩, -⟩ := h
  obtain ⟨a0, a1, a2, a3, -⟩ := hL.2.2.2.2.2.1
  have e : mIn k.toInt64 0 3 = if k < 0 then 0 else if 3 < k then 0 else 1 := mIn_i k 0 3
  unfold rMeasure jMeasure
  rw [e]
  by_cases c1 : k < 0
  · have n : ∀ j : Nat, j < 4 → ¬ k = nI j := fun j hj q => by rw [q] at c1; exact nI_pos (by omega) c1
    rw [if_neg (show ¬ k = 0 from n 0 (by decide)), if_neg (show ¬ k = 1 from n 1 (by decide)), if_neg (show ¬ k = 2 from n 2 (by decide)), if_neg (show ¬ k = 3 from n 3 (by decide)), if_pos c1, if_pos rfl]
  · rw [if_neg c1]
    obtain ⟨j, hj, rfl⟩ := nI_of c1
    by_cases c2 : 3 < j
    · have n : ∀ i : Nat, i < 4 → ¬ nI j = nI i := fun i hi q => absurd ((nI_eq hj (by omega)).mp q) (by omega)
      rw [if_neg (show ¬ nI j = 0 from n 0 (by decide)), if_neg (show ¬ nI j = 1 from n 1 (by decide)), if_neg (show ¬ nI j = 2 from n 2 (by decide)), if_neg (show ¬ nI j = 3 from n 3 (by decide)), if_pos (show 3 < nI j from nI_lt (a := 3) (b := j) c2 hj), if_pos rfl]
    · rw [if_neg (show ¬ 3 < nI j from nI_nlt (a := 3) (b := j) (by omega) (by decide)), if_neg i32_10, nI_clamp hj]
      rcases (show j = 0 ∨ j = 1 ∨ j = 2 ∨ j = 3 by omega) with rfl | rfl | rfl | rfl
      · exact a0.symm
      · exact a1.symm
      · exact a2.1.symm
      · exact a3.1.symm
theorem mCpTo_at (f g : mRow) (o : Nat) : ∀ k j : Nat, mCpTo f g o k j = if o ≤ j ∧ j < o + k then g (j - o) else f j
  | 0, j => by rw [if_neg (by omega)]; rfl
  | k + 1, j => by
    show vp_updL (mCpTo f g o k) (o + k) (g k) j = _
    by_cases c : j = o + k
    · rw [c, pk_uLs, if_pos (by omega), show o + k - o = k by omega]
    · rw [pk_uLn c, mCpTo_at f g o k j]
      by_cases d : o ≤ j ∧ j < o + k
      · rw [if_pos d, if_pos (by omega)]
      · rw [if_neg d, if_neg (by omega)]
theorem mCpFrom_at (f g : mRow) (o : Nat) : ∀ k j : Nat, mCpFrom f g o k j = if j < k then g (o + j) else f j
  | 0, j => by rw [if_neg (by omega)]; rfl
  | k + 1, j => by
    show vp_updL (mCpFrom f g o k) k (g (o + k)) j = _
    by_cases c : j = k
    · rw [c, pk_uLs, if_pos (by omega)]
    · rw [pk_uLn c, mCpFrom_at f g o k j]
      by_cases d : j < k
      · rw [if_pos d, if_pos (by omega)]
      · rw [if_neg d, if_neg (by omega)]
theorem rLp_row {σ : Lop} {n m : mRow} (h : rLp σ n) (e : ∀ j : Nat, j < 681 → m j = n j) : rLp σ m := by
  obtain ⟨N, h1, h2⟩ := h
  exact ⟨N, h1, LR_row h2 e⟩
theorem s_store {x : Xst} {μ : Mst} (h : REL x μ) : rStore x = jStore μ ∧ REL (gStore x) (hStore μ) := by
  have h0 := h
  obtain ⟨hS, hC, hT, hL, ⟨K, k1, k2, k3, k4, k5, b1, b2⟩, hM⟩ := h
  have hb : lB (xLoop x) := by obtain ⟨N, _, q⟩ := hL; exact LR_lB q
  unfold rStore jStore gStore hStore
  rw [k2, k3]
  rcases (show K = 0 ∨ K = 1 ∨ K = 2 by omega) with rfl | rfl | rfl
  · refine ⟨rfl, hS, hC, hT, hL, ⟨1, by decide, rfl, rfl, fun _ => rLp_copy hL (fun j hj => ?_), fun q => absurd q (by decide), ?_, b2⟩, hM⟩
    · show mCpTo (mKept μ) (mNow μ) 0 681 j = _
      rw [mCpTo_at, if_pos (by omega), Nat.sub_zero]
    · show lB (fLoopCopy (xFst x) (xLoop x)); exact hb
  · refine ⟨rfl, hS, hC, hT, hL, ⟨2, by decide, rfl, rfl, fun _ => rLp_row (k4 (by decide)) (fun j hj => ?_), fun _ => rLp_copy hL (fun j hj => ?_), b1, ?_⟩, hM⟩
    · show mCpTo (mKept μ) (mNow μ) 681 681 j = _
      rw [mCpTo_at, if_neg (by omega)]
    · show mCpTo (mKept μ) (mNow μ) 681 681 (681 + j) = _
      rw [mCpTo_at, if_pos (by omega), show 681 + j - 681 = j by omega]
    · show lB (fLoopCopy (xSnd x) (xLoop x)); exact hb
  · exact ⟨rfl, h0⟩
theorem REL_rec {x : Xst} {μ : Mst} {σ : Lop} {c k : Int32} {n : mRow} (h : REL x μ) (hl : rLp σ n) (hk : RK c (xFst x) (xSnd x) k (mKept μ)) : REL (xPut_storedStates (xPut_loop x σ) c) (mPut_now (mPut_keptMany μ k) n) := by
  obtain ⟨hS, hC, hT, -, -, hM⟩ := h
  exact ⟨hS, hC, hT, hl, hk, hM⟩
theorem s_recall {x : Xst} {μ : Mst} (h : REL x μ) : rRecall x = jRecall μ ∧ REL (gRecall x) (hRecall μ) := by
  have h0 := h
  obtain ⟨hS, hC, hT, hL, ⟨K, k1, k2, k3, k4, k5, b1, b2⟩, hM⟩ := h
  unfold rRecall jRecall gRecall hRecall
  rw [k2, k3]
  rcases (show K = 0 ∨ K = 1 ∨ K = 2 by omega) with rfl | rfl | rfl
  · exact ⟨rfl, h0⟩
  · have n1 : ¬ nI 1 = 0 := by decide
    have e : 681 * (nI 1 - 1 : Int32).toNatClampNeg = 0 := by rw [show (nI 1 - 1 : Int32) = nI 0 from rfl, nI_clamp (by decide)]
    rw [if_neg n1, if_neg n1, if_neg n1, if_pos (show nI 1 = 1 from rfl), e]
    refine ⟨rfl, REL_rec h0 (rLp_copy (n := mKept μ) (m := mCpFrom (mNow μ) (mKept μ) 0 681) (k4 (by decide)) (fun j hj => ?_)) ⟨0, by decide, rfl, rfl, fun q => absurd q (by decide), fun q => absurd q (by decide), b1, b2⟩⟩
    rw [mCpFrom_at, if_pos hj, Nat.zero_add]
  · have n1 : ¬ nI 2 = 0 := by decide
    have e : 681 * (nI 2 - 1 : Int32).toNatClampNeg = 681 := by rw [show (nI 2 - 1 : Int32) = nI 1 from rfl, nI_clamp (by decide)]
    rw [if_neg n1, if_neg n1, if_neg n1, if_neg (show ¬ nI 2 = 1 by decide), e]
    refine ⟨rfl, REL_rec h0 (rLp_copy (n := fun j => mKept μ (681 + j)) (m := mCpFrom (mNow μ) (mKept μ) 681 681) (k5 (by decide)) (fun j hj => ?_)) ⟨1, by decide, rfl, rfl, fun _ => k4 (by decide), fun q => absurd q (by decide), b1, b2⟩⟩
    rw [mCpFrom_at, if_pos hj]
