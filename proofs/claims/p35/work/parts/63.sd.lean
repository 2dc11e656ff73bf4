/-! SIMULATION, one tick: watches, measures, the whole -/
def wP (w : Wat) (n : mRow) (j : Nat) : Prop := vp_in (wSig w j) 10 ∧ n (661 + 5 * j) = (wSig w j).toInt64 ∧ ((n (661 + 5 * j + 1) = 0 ∧ wGtick w j = -1) ∨ (n (661 + 5 * j + 1) = 1 ∧ ¬ wGtick w j = -1 ∧ n (661 + 5 * j + 2) = (wLeast w j).toInt64 ∧ n (661 + 5 * j + 3) = (wGreat w j).toInt64 ∧ n (661 + 5 * j + 4) = (wGtick w j).toInt64))
def WR (w : Wat) (n : mRow) : Prop := ∃ W : Nat, W ≤ 4 ∧ wCnt w = nI W ∧ n 660 = lN W ∧ ∀ j : Nat, j < W → wP w n j
theorem WR_ext {w : Wat} {n m : mRow} (h : WR w n) (e : ∀ j : Nat, 660 ≤ j → m j = n j) : WR w m := by
  obtain ⟨W, h1, h2, h3, h4⟩ := h
  refine ⟨W, h1, h2, by rw [e 660 (by decide)]; exact h3, fun j hj => ?_⟩
  obtain ⟨a, b, c⟩ := h4 j hj
  unfold wP
  rw [e (661 + 5 * j) (by omega), e (661 + 5 * j + 1) (by omega), e (661 + 5 * j + 2) (by omega), e (661 + 5 * j + 3) (by omega), e (661 + 5 * j + 4) (by omega)]
  exact ⟨a, b, c⟩
/-- one watched signal sees a tick -/
theorem st_wat1 {w : Wat} {n : mRow} {p : Nat → Int32} {N j : Nat} (hN : n 640 = lN N) (hN2 : N < 1000000) (hj : j < 4) (hP : wP w n j) (hR : ∀ s : Nat, s < 10 → n (64 * s + N % 64) = (p s).toInt64) :
    wP (fWsee1 w p j (nI N)) (mWat1 n j) j ∧ wCnt (fWsee1 w p j (nI N)) = wCnt w ∧ (∀ i : Nat, i ≠ j → wSig (fWsee1 w p j (nI N)) i = wSig w i ∧ wLeast (fWsee1 w p j (nI N)) i = wLeast w i ∧ wGreat (fWsee1 w p j (nI N)) i = wGreat w i ∧ wGtick (fWsee1 w p j (nI N)) i = wGtick w i) ∧ (∀ i : Nat, (i < 661 + 5 * j + 1 ∨ 661 + 5 * j + 4 < i) → mWat1 n j i = n i) := by
  obtain ⟨hs, h0, h1⟩ := hP
  obtain ⟨s, hs2, es⟩ := vp_in_of hs (by decide)
  have ej : (nI j).toNatClampNeg = j := nI_clamp (by omega)
  have e1 : fWsee1 w p j (nI N) = fSeeOne w (nI j) (p s) (nI N) := by
    unfold fWsee1
    rw [es, if_neg (nI_pos (by omega)), if_neg (show ¬ (10 : Int32) ≤ nI s from nI_ge (a := s) (b := 10) hs2 (by decide)), nI_clamp (by omega)]
  have e2 : mAt n (n (661 + 5 * j)).toInt32 (n 640) = (p s).toInt64 := by
    rw [h0, Int32.toInt32_toInt64, es, hN, mAt_at hs2 hN2]; exact hR s hs2
  rw [e1]
  have eF : fFirst (wGtick w) (nI j) = (if n (661 + 5 * j + 1) = 0 then 1 else 0) := by
    unfold fFirst fSeen
    rw [if_neg (nI_pos (by omega)), if_neg (show ¬ (4 : Int32) ≤ nI j from nI_ge (a := j) (b := 4) hj (by decide)), ej]
    rcases h1 with ⟨a, b⟩ | ⟨a, b, -⟩
    · rw [if_pos b, if_pos rfl, if_pos a]
    · rw [if_neg b, if_neg (by decide), if_neg (by rw [a]; decide)]
  have nt : ¬ nI N = -1 := fun q => absurd (congrArg Int32.toInt q) (by rw [nI_toInt (by omega), show (-1 : Int32).toInt = -1 from rfl]; omega)
  have tN : n 640 = (nI N).toInt64 := by rw [hN, nI_l (by omega)]
  rcases h1 with ⟨a, b⟩ | ⟨a, b, c, d, f⟩
  · have EA : fSeeOne w (nI j) (p s) (nI N) = (wSig w, upd (wLeast w) j (p s), upd (wGreat w) j (p s), upd (wGtick w) j (nI N), wCnt w) := by
      unfold fSeeOne
      rw [eF, if_pos a, ej]; rfl
    have EB : mWat1 n j = vp_updL (vp_updL (vp_updL (vp_updL n (661 + 5 * j + 2) (p s).toInt64) (661 + 5 * j + 3) (p s).toInt64) (661 + 5 * j + 4) ((vp_updL (vp_updL n (661 + 5 * j + 2) (p s).toInt64) (661 + 5 * j + 3) (p s).toInt64) 640)) (661 + 5 * j + 1) 1 := by
      unfold mWat1
      rw [e2, if_pos a]; rfl
    rw [EA, EB]
    generalize p s = v
    refine ⟨⟨hs, ?_, Or.inr ⟨?_, ?_, ?_, ?_, ?_⟩⟩, rfl, fun i hi => ⟨rfl, ?_, ?_, ?_⟩, fun i hi => ?_⟩
    · rw [pk_uLn (by omega), pk_uLn (by omega), pk_uLn (by omega), pk_uLn (by omega)]; exact h0
    · rw [pk_uLs]
    · show ¬ upd (wGtick w) j (nI N) j = -1
      rw [pk_us]; exact nt
    · show _ = (upd (wLeast w) j v j).toInt64
      rw [pk_us, pk_uLn (by omega), pk_uLn (by omega), pk_uLn (by omega), pk_uLs]
    · show _ = (upd (wGreat w) j v j).toInt64
      rw [pk_us, pk_uLn (by omega), pk_uLn (by omega), pk_uLs]
    · show _ = (upd (wGtick w) j (nI N) j).toInt64
      rw [pk_us, pk_uLn (by omega), pk_uLs, pk_uLn (by omega), pk_uLn (by omega)]; exact tN
    · exact pk_un hi
    · exact pk_un hi
    · exact pk_un hi
    · rw [pk_uLn (by omega), pk_uLn (by omega), pk_uLn (by omega), pk_uLn (by omega)]
  · have a0 : ¬ n (661 + 5 * j + 1) = 0 := by rw [a]; decide
    obtain ⟨lo, hlo⟩ : ∃ lo : Nat → Int32, lo = (if wLeast w j ≤ p s then wLeast w else upd (wLeast w) j (p s)) := ⟨_, rfl⟩
    obtain ⟨z, hz⟩ : ∃ z : Int64, z = (if wLeast w j ≤ p s then (wLeast w j).toInt64 else (p s).toInt64) := ⟨_, rfl⟩
    have EA : fSeeOne w (nI j) (p s) (nI N) = (wSig w, lo, if p s ≤ wGreat w j then wGreat w else upd (wGreat w) j (p s), if p s ≤ wGreat w j then wGtick w else upd (wGtick w) j (nI N), wCnt w) := by
      unfold fSeeOne
      rw [eF, if_neg a0, ej, hlo]; rfl
    have EB : mWat1 n j = vp_updL (if p s ≤ wGreat w j then vp_updL n (661 + 5 * j + 2) z else vp_updL (vp_updL (vp_updL n (661 + 5 * j + 2) z) (661 + 5 * j + 3) (p s).toInt64) (661 + 5 * j + 4) ((vp_updL (vp_updL n (661 + 5 * j + 2) z) (661 + 5 * j + 3) (p s).toInt64) 640)) (661 + 5 * j + 1) 1 := by
      have hz' : (if n (661 + 5 * j + 2) ≤ (p s).toInt64 then n (661 + 5 * j + 2) else (p s).toInt64) = z := by rw [hz, c]; simp only [l64_le]
      unfold mWat1
      rw [e2, if_neg a0]
      unfold mWat2
      rw [show mWat3 n j (p s).toInt64 0 = vp_updL n (661 + 5 * j + 2) z from by rw [← hz']; rfl]
      have d' : vp_updL n (661 + 5 * j + 2) z (661 + 5 * j + 3) = (wGreat w j).toInt64 := by rw [pk_uLn (by omega)]; exact d
      unfold mWat4
      rw [if_pos rfl, d']
      simp only [l64_le]
      rfl
    have k1 : z = (lo j).toInt64 := by
      rw [hlo, hz]
      by_cases g : wLeast w j ≤ p s
      · rw [if_pos g, if_pos g]
      · rw [if_neg g, if_neg g, pk_us]
    have k2 : ∀ i : Nat, i ≠ j → lo i = wLeast w i := by
      intro i hi
      rw [hlo]
      by_cases g : wLeast w j ≤ p s
      · rw [if_pos g]
      · rw [if_neg g, pk_un hi]
    rw [EA, EB]
    generalize p s = v
    by_cases g : v ≤ wGreat w j
    · rw [if_pos g, if_pos g, if_pos g]
      refine ⟨⟨hs, ?_, Or.inr ⟨?_, ?_, ?_, ?_, ?_⟩⟩, rfl, fun i hi => ⟨rfl, k2 i hi, rfl, rfl⟩, fun i hi => ?_⟩
      · rw [pk_uLn (by omega), pk_uLn (by omega)]; exact h0
      · rw [pk_uLs]
      · exact b
      · show _ = (lo j).toInt64
        rw [pk_uLn (by omega), pk_uLs]; exact k1
      · rw [pk_uLn (by omega), pk_uLn (by omega)]; exact d
      · rw [pk_uLn (by omega), pk_uLn (by omega)]; exact f
      · rw [pk_uLn (by omega), pk_uLn (by omega)]
    · rw [if_neg g, if_neg g, if_neg g]
      refine ⟨⟨hs, ?_, Or.inr ⟨?_, ?_, ?_, ?_, ?_⟩⟩, rfl, fun i hi => ⟨rfl, k2 i hi, pk_un hi, pk_un hi⟩, fun i hi => ?_⟩
      · rw [pk_uLn (by omega), pk_uLn (by omega), pk_uLn (by omega), pk_uLn (by omega)]; exact h0
      · rw [pk_uLs]
      · show ¬ upd (wGtick w) j (nI N) j = -1
        rw [pk_us]; exact nt
      · show _ = (lo j).toInt64
        rw [pk_uLn (by omega), pk_uLn (by omega), pk_uLn (by omega), pk_uLs]; exact k1
      · show _ = (upd (wGreat w) j v j).toInt64
        rw [pk_us, pk_uLn (by omega), pk_uLn (by omega), pk_uLs]
      · show _ = (upd (wGtick w) j (nI N) j).toInt64
        rw [pk_us, pk_uLn (by omega), pk_uLs, pk_uLn (by omega), pk_uLn (by omega)]; exact tN
      · rw [pk_uLn (by omega), pk_uLn (by omega), pk_uLn (by omega), pk_uLn (by omega)]
theorem st_watN {p : Nat → Int32} {N W : Nat} (hN2 : N < 1000000) (hW : W ≤ 4) : ∀ (k j : Nat) (w : Wat) (n : mRow), j ≤ W → W < j + k → j + k ≤ 5 → n 640 = lN N → wCnt w = nI W → n 660 = lN W → (∀ i : Nat, i < W → wP w n i) → (∀ s : Nat, s < 10 → n (64 * s + N % 64) = (p s).toInt64) → WR (fWseeN p (nI N) k j w) (mWatN k j n) ∧ ∀ i : Nat, i < 661 → mWatN k j n i = n i
  | 0, j, w, n, h1, h2, _, _, _, _, _, _ => absurd h2 (by omega)
  | k + 1, j, w, n, h1, h2, h5, hN, hC, hC2, hP, hR => by
    rw [mWatN_s]
    show WR (if wCnt w ≤ nI j then w else if 4 ≤ nI j then w else fWseeN p (nI N) k (j + 1) (fWsee1 w p j (nI N))) _ ∧ _
    rw [hC, hC2, nI_l (by omega)]
    simp only [nI_leI (show W < 2 ^ 31 by omega) (show j < 2 ^ 31 by omega), lN_le (show W < 2 ^ 31 by omega) (show j < 2 ^ 31 by omega)]
    by_cases c : W ≤ j
    · rw [if_pos c, if_pos c]
      exact ⟨⟨W, hW, hC, hC2, hP⟩, fun _ _ => rfl⟩
    · rw [if_neg c, if_neg c, if_neg (show ¬ (4 : Int32) ≤ nI j from nI_ge (a := j) (b := 4) (by omega) (by decide))]
      obtain ⟨a1, a2, a3, a4⟩ := st_wat1 (p := p) hN hN2 (by omega) (hP j (by omega)) hR
      have r := st_watN hN2 hW k (j + 1) (fWsee1 w p j (nI N)) (mWat1 n j) (by omega) (by omega) (by omega) (by rw [a4 640 (by omega)]; exact hN) (by rw [a2]; exact hC) (by rw [a4 660 (by omega)]; exact hC2)
        (fun i hi => by
          by_cases e : i = j
          · rw [e]; exact a1
          · obtain ⟨b1, b2, b3, b4⟩ := a3 i e
            have hq := hP i hi
            unfold wP at hq ⊢
            rw [b1, b2, b3, b4, a4 (661 + 5 * i) (by omega), a4 (661 + 5 * i + 1) (by omega), a4 (661 + 5 * i + 2) (by omega), a4 (661 + 5 * i + 3) (by omega), a4 (661 + 5 * i + 4) (by omega)]
            exact hq)
        (fun s hs => by rw [a4 _ (by omega)]; exact hR s hs)
      exact ⟨r.1, fun i hi => (r.2 i hi).trans (a4 i (by omega))⟩
theorem st_wat {w : Wat} {p : Nat → Int32} {n : mRow} {N : Nat} (hN2 : N < 1000000) (hN : n 640 = lN N) (hW : WR w n) (hR : ∀ s : Nat, s < 10 → n (64 * s + N % 64) = (p s).toInt64) : WR (fWsee w p (nI N)) (mWat n) ∧ ∀ i : Nat, i < 661 → mWat n i = n i := by
  obtain ⟨W, h1, h2, h3, h4⟩ := hW
  exact st_watN hN2 h1 5 0 w n (by omega) (by omega) (by omega) hN h2 h3 h4 hR
/-- the section -/
def XR (x : Sec) (n : mRow) (K : Nat) : Prop := n 656 = sErr x ∧ n 657 = sEff x ∧ (n 658 = (sOver x).toInt64 ∧ 0 ≤ (sOver x).toInt ∧ (sOver x).toInt ≤ 1103000) ∧ (n 659 = (sTicks x).toInt64 ∧ 0 ≤ (sTicks x).toInt ∧ (sTicks x).toInt ≤ K) ∧ ((sUp x = 0 ∧ n 641 < n 655) ∨ (sUp x = 1 ∧ ¬ n 641 < n 655))
theorem mea1_rest (n : mRow) (z : Int64) (j : Nat) (h1 : j ≠ 658) (h2 : j ≠ 656) (h3 : j ≠ 659) : mMea1 n z j = n j := by
  unfold mMea1
  rw [pk_uLn h3, pk_uLn h2, pk_uLn h1]
theorem mea_rest (n : mRow) (j : Nat) (h1 : j ≠ 658) (h2 : j ≠ 656) (h3 : j ≠ 659) : mMea n j = n j := mea1_rest n _ j h1 h2 h3
theorem st_mea {x : Sec} {p : Nat → Int32} {n : mRow} {u0 : Int32} {K : Nat} (hK : K < 1000000) (hS : SP p n) (h6 : n 656 = sErr x) (h7 : n 657 = sEff x + mSize ((p 2).toInt64 - u0.toInt64)) (hu : -100000 ≤ u0.toInt ∧ u0.toInt ≤ 100000)
    (h8 : n 658 = (sOver x).toInt64 ∧ 0 ≤ (sOver x).toInt ∧ (sOver x).toInt ≤ 1103000) (h9 : n 659 = (sTicks x).toInt64 ∧ 0 ≤ (sTicks x).toInt ∧ (sTicks x).toInt ≤ K) (hU : (sUp x = 0 ∧ n 641 < n 655) ∨ (sUp x = 1 ∧ ¬ n 641 < n 655)) :
    XR (fSecSee x (p 0) (p 1) (p 2 - u0)) (mMea n) (K + 1) := by
  obtain ⟨s0, s0a, s0b⟩ := hS 0 (by decide)
  obtain ⟨s1, s1a, s1b⟩ := hS 1 (by decide)
  obtain ⟨s2, s2a, s2b⟩ := hS 2 (by decide)
  have s0 : n 641 = (p 0).toInt64 := s0
  have s1 : n 652 = (p 1).toInt64 := s1
  have s0a : -100000 ≤ (p 0).toInt := s0a
  have s0b : (p 0).toInt ≤ 100000 := s0b
  have s1a : -1003000 ≤ (p 1).toInt := s1a
  have s1b : (p 1).toInt ≤ 1003000 := s1b
  have s2a : -100000 ≤ (p 2).toInt := s2a
  have s2b : (p 2).toInt ≤ 100000 := s2b
  have rm : n 641 - n 652 = (p 0 - p 1).toInt64 := by rw [s0, s1, zw_sub (by omega) (by omega)]
  have mr : n 652 - n 641 = (p 1 - p 0).toInt64 := by rw [s0, s1, zw_sub (by omega) (by omega)]
  have rmT : (p 0 - p 1).toInt = (p 0).toInt - (p 1).toInt := zi_sub (by omega) (by omega)
  have mrT : (p 1 - p 0).toInt = (p 1).toInt - (p 0).toInt := zi_sub (by omega) (by omega)
  have uu : (p 2).toInt64 - u0.toInt64 = (p 2 - u0).toInt64 := by rw [zw_sub (by omega) (by omega)]
  have uuT : (p 2 - u0).toInt = (p 2).toInt - u0.toInt := zi_sub (by omega) (by omega)
  have ov : mOv n = (if sUp x = 0 then p 0 - p 1 else p 1 - p 0).toInt64 := by
    unfold mOv
    rcases hU with ⟨a, b⟩ | ⟨a, b⟩
    · rw [if_pos b, if_pos a, rm]
    · rw [if_neg b, a, if_neg (by decide), mr]
  have ovB : -1103000 ≤ (if sUp x = 0 then p 0 - p 1 else p 1 - p 0).toInt ∧ (if sUp x = 0 then p 0 - p 1 else p 1 - p 0).toInt ≤ 1103000 := by
    split
    · rw [rmT]; omega
    · rw [mrT]; omega
  unfold mMea
  rw [ov]
  refine ⟨?_, ?_, ⟨?_, ?_⟩, ⟨?_, ?_⟩, ?_⟩
  · unfold mMea1
    rw [pk_uLn (by decide), pk_uLs, h6, rm]
    show _ = sErr x + (kAbs (p 0 - p 1)).toInt64
    rw [(z_abs (by rw [rmT]; omega)).1]
  · rw [mea1_rest n _ 657 (by decide) (by decide) (by decide), h7, uu]
    show _ = sEff x + (kAbs (p 2 - u0)).toInt64
    rw [(z_abs (by rw [uuT]; omega)).1]
  · unfold mMea1
    rw [pk_uLn (by decide), pk_uLn (by decide), pk_uLs, h8.1]
    show _ = (kMax (sOver x) (if sUp x = 0 then p 0 - p 1 else p 1 - p 0)).toInt64
    unfold kMax
    simp only [l64_le]
    by_cases g : sOver x < (if sUp x = 0 then p 0 - p 1 else p 1 - p 0)
    · rw [if_pos g, if_neg (Int32.not_le.mpr g)]
    · rw [if_neg g, if_pos (Int32.not_lt.mp g)]
  · show 0 ≤ (kMax (sOver x) (if sUp x = 0 then p 0 - p 1 else p 1 - p 0)).toInt ∧ (kMax (sOver x) (if sUp x = 0 then p 0 - p 1 else p 1 - p 0)).toInt ≤ 1103000
    generalize (if sUp x = 0 then p 0 - p 1 else p 1 - p 0) = z at ovB ⊢
    unfold kMax
    split
    · rename_i g
      rw [zi_lt] at g
      omega
    · exact h8.2
  · unfold mMea1
    rw [pk_uLs, h9.1]
    show _ = (sTicks x + 1).toInt64
    rw [zw_add (by rw [zi1]; omega) (by rw [zi1]; omega)]; rfl
  · show 0 ≤ (sTicks x + 1).toInt ∧ (sTicks x + 1).toInt ≤ ((K + 1 : Nat) : Int)
    rw [zi_add (by rw [zi1]; omega) (by rw [zi1]; omega), zi1]; omega
  · rw [mea1_rest n _ 641 (by decide) (by decide) (by decide), mea1_rest n _ 655 (by decide) (by decide) (by decide)]
    exact hU
/-- a loop and its row -/
def LR (σ : Lop) (n : mRow) (N : Nat) : Prop := lNow σ = nI N ∧ n 640 = lN N ∧ (n 642 = (lLoad σ).toInt64 ∧ -100000 ≤ (lLoad σ).toInt ∧ (lLoad σ).toInt ≤ 100000) ∧ (n 643 = (lSeed σ).toInt64 ∧ 0 ≤ (lSeed σ).toInt ∧ (lSeed σ).toInt ≤ 9999) ∧ LJ σ n N ∧ XR (lSec σ) n N ∧ WR (lWat σ) n ∧ RR (lRecs σ) n N ∧ mOk n
theorem st_move {p v q : Nat → Int32} {n : mRow} {a L : Int32} (hS : SP p n) (hQ : (∀ k : Nat, k < 15 → k ≠ 4 → v k = q k) ∧ pOk v) (ha : -100000 ≤ a.toInt ∧ a.toInt ≤ 100000) (hL : n 642 = L.toInt64 ∧ -100000 ≤ L.toInt ∧ L.toInt ≤ 100000) : SP (fYx p v (a + L).toInt64) (mTkF n q a.toInt64) ∧ (∀ s : Nat, s ≠ 8 → s ≠ 3 → fYx p v (a + L).toInt64 s = p s) := by
  obtain ⟨hQ, hv⟩ := hQ
  have r2 := pR_2 hv
  have r3 := pR_3 hv
  have r5 := pR_5 hv
  have r6 := pR_6 hv
  have e2 := hQ 2 (by decide) (by decide)
  have e3 := hQ 3 (by decide) (by decide)
  have e5 := hQ 5 (by decide) (by decide)
  have e6 := hQ 6 (by decide) (by decide)
  obtain ⟨s8, s8a, s8b⟩ := hS 8 (by decide)
  obtain ⟨s3, s3a, s3b⟩ := hS 3 (by decide)
  obtain ⟨s2, s2a, s2b⟩ := hS 2 (by decide)
  have s8 : n 644 = (p 8).toInt64 := s8
  have s3 : n 645 = (p 3).toInt64 := s3
  have s2 : n 651 = (p 2).toInt64 := s2
  have s8a : -1000000 ≤ (p 8).toInt := s8a
  have s8b : (p 8).toInt ≤ 1000000 := s8b
  have s3a : -500000 ≤ (p 3).toInt := s3a
  have s3b : (p 3).toInt ≤ 500000 := s3b
  have s2a : -100000 ≤ (p 2).toInt := s2a
  have s2b : (p 2).toInt ≤ 100000 := s2b
  obtain ⟨l1, l2, l3⟩ := hL
  have aL : a.toInt64 + n 642 = (a + L).toInt64 := by rw [l1, zw_add (by omega) (by omega)]
  have aLT : (a + L).toInt = a.toInt + L.toInt := zi_add (by omega) (by omega)
  -- the goals
  have goal : ∀ (g z : Int32) (B : Nat), B ≤ 200000 → -5000 ≤ g.toInt → g.toInt ≤ 5000 → -(B : Int) ≤ z.toInt → z.toInt ≤ B → fThou (g.toInt64 * z.toInt64) = mFloor (g.toInt64 * z.toInt64) 1000 ∧ -((5 * B : Nat) : Int) ≤ (mFloor (g.toInt64 * z.toInt64) 1000).toInt ∧ (mFloor (g.toInt64 * z.toInt64) 1000).toInt ≤ ((5 * B : Nat) : Int) := by
    intro g z B hB h1 h2 h3 h4
    have b := z_mulb (a := g.toInt) (b := z.toInt) 5000 B (by omega) (by omega)
    have eT : (g.toInt64 * z.toInt64).toInt = g.toInt * z.toInt := by
      rw [za_mul (by rw [Int32.toInt_toInt64, Int32.toInt_toInt64]; omega) (by rw [Int32.toInt_toInt64, Int32.toInt_toInt64]; omega), Int32.toInt_toInt64, Int32.toInt_toInt64]
    obtain ⟨t1, t2⟩ := z_thou (x := g.toInt64 * z.toInt64) (by rw [eT]; omega) (by rw [eT]; omega)
    rw [eT] at t2
    exact ⟨t1, by omega, by omega⟩
  obtain ⟨y1, y2, y3⟩ := goal (v 2) (a + L) 200000 (by decide) r2.1 r2.2 (by rw [aLT]; omega) (by rw [aLT]; omega)
  obtain ⟨x1, x2, x3⟩ := goal (v 5) (p 2) 100000 (by decide) r5.1 r5.2 (by omega) (by omega)
  have w3 : (1000 - v 3).toInt = 1000 - (v 3).toInt := zi_sub (by rw [show (1000 : Int32).toInt = 1000 from rfl]; omega) (by rw [show (1000 : Int32).toInt = 1000 from rfl]; omega)
  have w6 : (1000 - v 6).toInt = 1000 - (v 6).toInt := zi_sub (by rw [show (1000 : Int32).toInt = 1000 from rfl]; omega) (by rw [show (1000 : Int32).toInt = 1000 from rfl]; omega)
  obtain ⟨a1, a2, a3⟩ := z_steps (s := (p 8).toInt64) (g := mFloor ((v 2).toInt64 * (a + L).toInt64) 1000) (w := 1000 - v 3) 1000000 (by decide) (by rw [Int32.toInt_toInt64]; omega) (by omega) (by rw [w3]; omega)
  obtain ⟨b1, b2, b3⟩ := z_steps (s := (p 3).toInt64) (g := mFloor ((v 5).toInt64 * (p 2).toInt64) 1000) (w := 1000 - v 6) 500000 (by decide) (by rw [Int32.toInt_toInt64]; omega) (by omega) (by rw [w6]; omega)
  unfold fYx mTkF
  rw [fG_2, fG_3, fG_5, fG_6, y1, x1, aL, s8, s3, s2, ← e2, ← e3, ← e5, ← e6, a1, b1]
  refine ⟨SP_ign (SP_upd (SP_upd hS 8 (by decide) rfl a2 a3) 3 (by decide) rfl b2 b3) (by decide), fun s h8 h3 => ?_⟩
  rw [pk_un h3, pk_un h8]
