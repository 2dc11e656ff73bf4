def rm_X7_ahead : Room := { frames := 3, cells := 0, slots := 0, locals := 85 }
set_option maxHeartbeats 1000000 in
set_option maxRecDepth 100000 in
theorem c_X7_ahead (Γ : gT) (l : Launch) (a : Nat → Nat) (b : Nat) (μ : Mst) (t : Int32) (s1 : Int32) (N : Nat) (hok : mOk (mNow μ)) (hN : mNow μ 640 = lN N) (hN2 : N < 2000000) : Ci Γ l yX7_ahead wsX7_ahead rm_X7_ahead [.ref (a b), .int t, .int s1] (modW Γ a b μ) (jAhead μ t s1) (modW Γ a b (hAhead μ t s1)) := by
  refine Ci.of (cc := cX7_ahead) (own := RX7) (nL := 4) (ret := (some .int)) (by decide +kernel) rfl rfl (Nat.le_of_ble_eq_true rfl) ?_
  intro p e s m args below meth c A Q H locs ls ha hAe hQ hx hb hml hr hts hown hlk hP hK hD hS hA hG hl
  have hh : Hd Γ p s m args c cX7_ahead RX7 4 wsX7_ahead A := ⟨⟨hx, hb, hml, hown, hts⟩, hK, hA, hG⟩
  have hl : lv_has ls 4 [(0, .ref (a b)), (1, .int t), (2, .int s1)] := hl
  refine lv_iload_n hx hb dX7_ahead_0 rfl (lv_at hl 1 rfl) ?_
  refine lv_i2l (v := t.toInt64) hx hb dX7_ahead_1 rfl ?_
  refine lv_lconst (v := 1) hx hb dX7_ahead_2 (by decide) ?_
  refine lv_ldc2 hx hb hown (hts (.constantLong RX7 189 (500)) (List.mem_of_getElem? (i := 1) rfl)) dX7_ahead_3 ?_
  refine ca_Si hh hl.1 (c_X7_in Γ l (t.toInt64) 1 500) (va_cwS 3 hts gX7_ahead_X7_in rfl rfl rfl (by decide +kernel) ⟨(Nat.le_of_ble_eq_true rfl), (Nat.le_of_ble_eq_true rfl)⟩) (As := [.long (t.toInt64), .long 1, .long 500]) (rest := []) rfl dX7_ahead_6 rfl (Nat.le_of_ble_eq_true rfl) hP hD hS ⟨Nat.zero_le _, Nat.zero_le _⟩ (fun H locs hP hS => ?_)
  refine lv_if_eq (tgt := 19) hx hb dX7_ahead_9 (by decide) (fun c_9 => ?_) (fun c_9 => ?_)
  · -- yes
    refine lv_ldc hx hb hown (hts (.constant RX7 74 (-2000000001)) (List.mem_of_getElem? (i := 2) rfl)) dX7_ahead_19 ?_
    exact re_i hQ ha hx hb hr hlk hAe hP hS dX7_ahead_21 (by simp only [jAhead, c_9, if_true, if_false]) (by simp only [hAhead, mAsideL, mAsideP, hAside, mPut_par, mPut_aside, mPut_parAside, mPut_now, c_9, if_true, if_false])
  · -- no
    refine lv_iload_n hx hb dX7_ahead_12 rfl (lv_at hl 2 rfl) ?_
    refine ca_Si hh hl.1 (c_X7_isSignal Γ l s1) (va_cwS 1 hts gX7_ahead_X7_isSignal rfl rfl rfl (by decide +kernel) ⟨(Nat.le_of_ble_eq_true rfl), (Nat.le_of_ble_eq_true rfl)⟩) (As := [.int s1]) (rest := []) rfl dX7_ahead_13 rfl (Nat.le_of_ble_eq_true rfl) hP hD hS ⟨Nat.zero_le _, Nat.zero_le _⟩ (fun H locs hP hS => ?_)
    refine lv_if_ne (tgt := 22) hx hb dX7_ahead_16 (by decide) (fun c_16 => ?_) (fun c_16 => ?_)
    · -- yes
      have hT := rng_of 1 500 (by decide) (by decide) c_9
      refine lv_aload_n hx hb dX7_ahead_22 rfl (lv_at hl 0 rfl) ?_
      obtain ⟨u_23, eu_23⟩ : ∃ z : Nat → Int64, z = mCpL (mAside μ) (mNow μ) 681 := ⟨_, rfl⟩
      obtain ⟨u_23b, eu_23b⟩ : ∃ z : Nat → Int32, z = mCpI (mParA μ) (mPar μ) 15 := ⟨_, rfl⟩
      have hM_23 : Cv Γ l yX7_putsAside wsX7_putsAside rm_X7_putsAside [.ref (a b)] (modW Γ a b μ) (modW Γ a b ((mNow μ), u_23, (mKept μ), (mKm μ), (mPar μ), u_23b, (mBef μ), (mUm μ), (mLow μ), (mHigh μ), (mNames μ), (mLen μ), (mText μ), (mPath μ), (mIdeal μ), (mSpot μ), (mWhich μ), (mNum μ))) := by rw [eu_23, eu_23b]; exact c_X7_putsAside Γ l a b μ
      refine ca_Vva hh hl.1 hM_23 (cwV 0 hts gX7_ahead_X7_putsAside rfl rfl rfl (by decide +kernel) ⟨(Nat.le_of_ble_eq_true rfl), (Nat.le_of_ble_eq_true rfl)⟩) (As := []) (rest := []) rfl dX7_ahead_23 rfl (Nat.le_of_ble_eq_true rfl) hP hD hS (q0 := 0) (ci := 7) rfl rfl rfl (wf := modW Γ a b ((mNow μ), u_23, (mKept μ), (mKm μ), (mPar μ), u_23b, (mBef μ), (mUm μ), (mLow μ), (mHigh μ), (mNames μ), (mLen μ), (mText μ), (mPath μ), (mIdeal μ), (mSpot μ), (mWhich μ), (mNum μ))) rfl ⟨Nat.zero_le _, Nat.zero_le _⟩ (fun H locs hP hD hS => ?_)
      refine lv_iconst (v := 0) hx hb dX7_ahead_26 (by decide) ?_
      refine lv_istore_n (lv' := [(3, .int 0), (0, .ref (a b)), (1, .int t), (2, .int s1)]) hx hb dX7_ahead_27 rfl hl (by decide) rfl (fun ls hl => ?_)
      have hJ_28 : ∀ n : Nat, ∀ (i : Nat) (y : Int32) (n1 : Nat → Int64), (y = nI i) → (i ≤ t.toNatClampNeg) → (t.toNatClampNeg + 1 ≤ i + n) → (n1 640 = lN (N + i)) → (mOk n1) → (mAdv (mPar μ) (mIdeal μ) (t.toNatClampNeg - i) n1 = mAdv (mPar μ) (mIdeal μ) t.toNatClampNeg (mNow μ)) → ∀ (H : Heap) (locs : List Loc) (ls : Array Slot), va_P (gD Γ) vwCl (modW Γ a b (n1, u_23, (mKept μ), (mKm μ), (mPar μ), u_23b, (mBef μ), (mUm μ), (mLow μ), (mHigh μ), (mNames μ), (mLen μ), (mText μ), (mPath μ), (mIdeal μ), (mSpot μ), (mWhich μ), (mNum μ))) H → va_D A (modW Γ a b (n1, u_23, (mKept μ), (mKm μ), (mPar μ), u_23b, (mBef μ), (mUm μ), (mLow μ), (mHigh μ), (mNames μ), (mLen μ), (mText μ), (mPath μ), (mIdeal μ), (mSpot μ), (mWhich μ), (mNum μ))) → va_S A s.heap H locs → lv_has ls 4 [(0, .ref (a b)), (1, .int t), (2, .int s1), (3, .int y)] → W p l e rm_X7_ahead s m args below meth c H locs 0 0 Q (F0 m 28 ls []) := by
        intro n
        induction n with
        | zero =>
          intro i y n1 ey hi hn hs hok1 hg
          omega
        | succ n ih =>
          intro i y n1 ey hi hn hs hok1 hg H locs ls hP hD hS hl
          refine lv_iload_n hx hb dX7_ahead_28 rfl (lv_at hl 3 rfl) ?_
          refine lv_iload_n hx hb dX7_ahead_29 rfl (lv_at hl 1 rfl) ?_
          refine lv_icmp_ge (tgt := 43) hx hb dX7_ahead_30 (by decide) (fun c_30 => ?_) (fun c_30 => ?_)
          · -- yes
            have hiT : i = t.toNatClampNeg := (by have q0 := c_30; rw [hT.1, ey] at q0; rcases Nat.lt_or_ge i t.toNatClampNeg with q | q; exact absurd q0 (nI_ge q (by omega)); omega)
            have hn1 : mAdv (mPar μ) (mIdeal μ) t.toNatClampNeg (mNow μ) = n1 := by rw [← hg, hiT, Nat.sub_self]; rfl
            refine lv_aload_n hx hb dX7_ahead_43 rfl (lv_at hl 0 rfl) ?_
            refine lv_iload_n hx hb dX7_ahead_44 rfl (lv_at hl 2 rfl) ?_
            refine ca_Via hh hl.1 (c_X7_present Γ l a b (n1, u_23, (mKept μ), (mKm μ), (mPar μ), u_23b, (mBef μ), (mUm μ), (mLow μ), (mHigh μ), (mNames μ), (mLen μ), (mText μ), (mPath μ), (mIdeal μ), (mSpot μ), (mWhich μ), (mNum μ)) s1) (cwV 1 hts gX7_ahead_X7_present rfl rfl rfl (by decide +kernel) ⟨(Nat.le_of_ble_eq_true rfl), (Nat.le_of_ble_eq_true rfl)⟩) (As := [.int s1]) (rest := []) rfl dX7_ahead_45 rfl (Nat.le_of_ble_eq_true rfl) hP hD hS (q0 := 0) (ci := 7) rfl rfl rfl (wf := modW Γ a b (n1, u_23, (mKept μ), (mKm μ), (mPar μ), u_23b, (mBef μ), (mUm μ), (mLow μ), (mHigh μ), (mNames μ), (mLen μ), (mText μ), (mPath μ), (mIdeal μ), (mSpot μ), (mWhich μ), (mNum μ))) rfl ⟨Nat.zero_le _, Nat.zero_le _⟩ (fun H locs hP hD hS => ?_)
            refine lv_istore_n (lv' := [(3, .int (mPres n1 s1)), (0, .ref (a b)), (1, .int t), (2, .int s1)]) hx hb dX7_ahead_48 rfl hl (by decide) rfl (fun ls hl => ?_)
            refine lv_aload_n hx hb dX7_ahead_49 rfl (lv_at hl 1 rfl) ?_
            obtain ⟨u_50, eu_50⟩ : ∃ z : Nat → Int64, z = mCpL n1 u_23 681 := ⟨_, rfl⟩
            obtain ⟨u_50b, eu_50b⟩ : ∃ z : Nat → Int32, z = mCpI (mPar μ) u_23b 15 := ⟨_, rfl⟩
            have hM_50 : Cv Γ l yX7_putsBack wsX7_putsBack rm_X7_putsBack [.ref (a b)] (modW Γ a b (n1, u_23, (mKept μ), (mKm μ), (mPar μ), u_23b, (mBef μ), (mUm μ), (mLow μ), (mHigh μ), (mNames μ), (mLen μ), (mText μ), (mPath μ), (mIdeal μ), (mSpot μ), (mWhich μ), (mNum μ))) (modW Γ a b (u_50, u_23, (mKept μ), (mKm μ), u_50b, u_23b, (mBef μ), (mUm μ), (mLow μ), (mHigh μ), (mNames μ), (mLen μ), (mText μ), (mPath μ), (mIdeal μ), (mSpot μ), (mWhich μ), (mNum μ))) := by rw [eu_50, eu_50b]; exact c_X7_putsBack Γ l a b (n1, u_23, (mKept μ), (mKm μ), (mPar μ), u_23b, (mBef μ), (mUm μ), (mLow μ), (mHigh μ), (mNames μ), (mLen μ), (mText μ), (mPath μ), (mIdeal μ), (mSpot μ), (mWhich μ), (mNum μ))
            refine ca_Vva hh hl.1 hM_50 (cwV 0 hts gX7_ahead_X7_putsBack rfl rfl rfl (by decide +kernel) ⟨(Nat.le_of_ble_eq_true rfl), (Nat.le_of_ble_eq_true rfl)⟩) (As := []) (rest := []) rfl dX7_ahead_50 rfl (Nat.le_of_ble_eq_true rfl) hP hD hS (q0 := 0) (ci := 7) rfl rfl rfl (wf := modW Γ a b (u_50, u_23, (mKept μ), (mKm μ), u_50b, u_23b, (mBef μ), (mUm μ), (mLow μ), (mHigh μ), (mNames μ), (mLen μ), (mText μ), (mPath μ), (mIdeal μ), (mSpot μ), (mWhich μ), (mNum μ))) rfl ⟨Nat.zero_le _, Nat.zero_le _⟩ (fun H locs hP hD hS => ?_)
            refine lv_iload_n hx hb dX7_ahead_53 rfl (lv_at hl 0 rfl) ?_
            exact re_i hQ ha hx hb hr hlk hAe hP hS dX7_ahead_54 (by simp only [jAhead, hn1, c_9, c_16, c_30, if_true, if_false]) (by simp only [hAhead, hn1, mAsideL, mAsideP, hAside, mPut_par, mPut_aside, mPut_parAside, mPut_now, ← eu_23, ← eu_23b, ← eu_50, ← eu_50b, c_9, c_16, c_30, if_true, if_false])
          · -- no
            have hlt : i < t.toNatClampNeg := (by have q0 := c_30; rw [hT.1, ey] at q0; exact lt_of_nle q0 (by omega) (by omega))
            refine lv_aload_n hx hb dX7_ahead_33 rfl (lv_at hl 0 rfl) ?_
            obtain ⟨u_34, eu_34⟩ : ∃ z : Nat → Int64, z = mTick n1 (mPar μ) (mIdeal μ) := ⟨_, rfl⟩
            have hM_34 : Cv Γ l yX7_ticks wsX7_ticks rm_X7_ticks [.ref (a b)] (modW Γ a b (n1, u_23, (mKept μ), (mKm μ), (mPar μ), u_23b, (mBef μ), (mUm μ), (mLow μ), (mHigh μ), (mNames μ), (mLen μ), (mText μ), (mPath μ), (mIdeal μ), (mSpot μ), (mWhich μ), (mNum μ))) (modW Γ a b (u_34, u_23, (mKept μ), (mKm μ), (mPar μ), u_23b, (mBef μ), (mUm μ), (mLow μ), (mHigh μ), (mNames μ), (mLen μ), (mText μ), (mPath μ), (mIdeal μ), (mSpot μ), (mWhich μ), (mNum μ))) := by rw [eu_34]; exact c_X7_ticks Γ l a b (n1, u_23, (mKept μ), (mKm μ), (mPar μ), u_23b, (mBef μ), (mUm μ), (mLow μ), (mHigh μ), (mNames μ), (mLen μ), (mText μ), (mPath μ), (mIdeal μ), (mSpot μ), (mWhich μ), (mNum μ)) hok1
            refine ca_Vva hh hl.1 hM_34 (cwV 0 hts gX7_ahead_X7_ticks rfl rfl rfl (by decide +kernel) ⟨(Nat.le_of_ble_eq_true rfl), (Nat.le_of_ble_eq_true rfl)⟩) (As := []) (rest := []) rfl dX7_ahead_34 rfl (Nat.le_of_ble_eq_true rfl) hP hD hS (q0 := 0) (ci := 7) rfl rfl rfl (wf := modW Γ a b (u_34, u_23, (mKept μ), (mKm μ), (mPar μ), u_23b, (mBef μ), (mUm μ), (mLow μ), (mHigh μ), (mNames μ), (mLen μ), (mText μ), (mPath μ), (mIdeal μ), (mSpot μ), (mWhich μ), (mNum μ))) rfl ⟨Nat.zero_le _, Nat.zero_le _⟩ (fun H locs hP hD hS => ?_)
            refine lv_iinc (v := (y + 1)) (lv' := [(3, .int (y + 1)), (0, .ref (a b)), (1, .int t), (2, .int s1)]) hx hb dX7_ahead_37 hl (k := 3) rfl rfl (by decide) rfl (fun ls hl => ?_)
            refine lv_goto (tgt := 28) hx hb dX7_ahead_40 (by decide) ?_
            exact ih (i + 1) _ _ (by rw [ey]; exact nI_1 i) (by omega) (by omega) (by rw [eu_34]; exact (mOk_tick _ _ hok1 hs (by omega)).2) (by rw [eu_34]; exact (mOk_tick _ _ hok1 hs (by omega)).1) (by rw [← hg, show t.toNatClampNeg - i = (t.toNatClampNeg - (i + 1)) + 1 from by omega, mAdv_s, eu_34]) _ _ _ hP hD hS (lv_sub hl [1, 2, 3, 0] rfl)
      exact hJ_28 (t.toNatClampNeg + 1) 0 0 _ rfl (by omega) (by omega) hN hok rfl _ _ _ hP hD hS (lv_sub hl [1, 2, 3, 0] rfl)
    · -- no
      refine lv_ldc hx hb hown (hts (.constant RX7 74 (-2000000001)) (List.mem_of_getElem? (i := 2) rfl)) dX7_ahead_19 ?_
      exact re_i hQ ha hx hb hr hlk hAe hP hS dX7_ahead_21 (by simp only [jAhead, c_9, c_16, if_true, if_false]) (by simp only [hAhead, mAsideL, mAsideP, hAside, mPut_par, mPut_aside, mPut_parAside, mPut_now, c_9, c_16, if_true, if_false])
def rm_X7_bestGain : Room := { frames := 3, cells := 0, slots := 0, locals := 85 }
theorem iX7_bestGain_7 : ∀ w ∈ u_ws RX7 TX7 18, w ∈ wsX7_bestGain := fun w h => (List.mem_cons_of_mem _ (List.mem_append_right _ h))
set_option maxHeartbeats 1000000 in
set_option maxRecDepth 100000 in
theorem c_X7_bestGain (Γ : gT) (l : Launch) (a : Nat → Nat) (b : Nat) (μ : Mst) (t : Int32) (N : Nat) (hok : mOk (mNow μ)) (hN : mNow μ 640 = lN N) (hN2 : N < 2000000) : Ci Γ l yX7_bestGain wsX7_bestGain rm_X7_bestGain [.ref (a b), .int t] (modW Γ a b μ) (jBest μ t) (modW Γ a b (hBest μ t)) := by
  refine Ci.of (cc := cX7_bestGain) (own := RX7) (nL := 7) (ret := (some .int)) (by decide +kernel) rfl rfl (Nat.le_of_ble_eq_true rfl) ?_
  intro p e s m args below meth c A Q H locs ls ha hAe hQ hx hb hml hr hts hown hlk hP hK hD hS hA hG hl
  have hh : Hd Γ p s m args c cX7_bestGain RX7 7 wsX7_bestGain A := ⟨⟨hx, hb, hml, hown, hts⟩, hK, hA, hG⟩
  have hl : lv_has ls 7 [(0, .ref (a b)), (1, .int t)] := hl
  refine lv_iload_n hx hb dX7_bestGain_0 rfl (lv_at hl 1 rfl) ?_
  refine lv_i2l (v := t.toInt64) hx hb dX7_bestGain_1 rfl ?_
  refine lv_lconst (v := 1) hx hb dX7_bestGain_2 (by decide) ?_
  refine lv_ldc2 hx hb hown (hts (.constantLong RX7 238 (100)) (List.mem_of_getElem? (i := 1) rfl)) dX7_bestGain_3 ?_
  refine ca_Si hh hl.1 (c_X7_in Γ l (t.toInt64) 1 100) (va_cwS 3 hts gX7_bestGain_X7_in rfl rfl rfl (by decide +kernel) ⟨(Nat.le_of_ble_eq_true rfl), (Nat.le_of_ble_eq_true rfl)⟩) (As := [.long (t.toInt64), .long 1, .long 100]) (rest := []) rfl dX7_bestGain_6 rfl (Nat.le_of_ble_eq_true rfl) hP hD hS ⟨Nat.zero_le _, Nat.zero_le _⟩ (fun H locs hP hS => ?_)
  refine lv_if_ne (tgt := 15) hx hb dX7_bestGain_9 (by decide) (fun c_9 => ?_) (fun c_9 => ?_)
  · -- yes
    have hT := rng_of 1 100 (by decide) (by decide) c_9
    refine lv_aload_n hx hb dX7_bestGain_15 rfl (lv_at hl 0 rfl) ?_
    obtain ⟨u_16, eu_16⟩ : ∃ z : Nat → Int64, z = mCpL (mAside μ) (mNow μ) 681 := ⟨_, rfl⟩
    obtain ⟨u_16b, eu_16b⟩ : ∃ z : Nat → Int32, z = mCpI (mParA μ) (mPar μ) 15 := ⟨_, rfl⟩
    have hM_16 : Cv Γ l yX7_putsAside wsX7_putsAside rm_X7_putsAside [.ref (a b)] (modW Γ a b μ) (modW Γ a b ((mNow μ), u_16, (mKept μ), (mKm μ), (mPar μ), u_16b, (mBef μ), (mUm μ), (mLow μ), (mHigh μ), (mNames μ), (mLen μ), (mText μ), (mPath μ), (mIdeal μ), (mSpot μ), (mWhich μ), (mNum μ))) := by rw [eu_16, eu_16b]; exact c_X7_putsAside Γ l a b μ
    refine ca_Vva hh hl.1 hM_16 (cwV 0 hts gX7_bestGain_X7_putsAside rfl rfl rfl (by decide +kernel) ⟨(Nat.le_of_ble_eq_true rfl), (Nat.le_of_ble_eq_true rfl)⟩) (As := []) (rest := []) rfl dX7_bestGain_16 rfl (Nat.le_of_ble_eq_true rfl) hP hD hS (q0 := 0) (ci := 7) rfl rfl rfl (wf := modW Γ a b ((mNow μ), u_16, (mKept μ), (mKm μ), (mPar μ), u_16b, (mBef μ), (mUm μ), (mLow μ), (mHigh μ), (mNames μ), (mLen μ), (mText μ), (mPath μ), (mIdeal μ), (mSpot μ), (mWhich μ), (mNum μ))) rfl ⟨Nat.zero_le _, Nat.zero_le _⟩ (fun H locs hP hD hS => ?_)
    refine lv_iconst (v := 0) hx hb dX7_bestGain_19 (by decide) ?_
    refine lv_istore_n (lv' := [(2, .int 0), (0, .ref (a b)), (1, .int t)]) hx hb dX7_bestGain_20 rfl hl (by decide) rfl (fun ls hl => ?_)
    refine lv_lconst (v := 0) hx hb dX7_bestGain_21 (by decide) ?_
    refine lv_lstore_n (lv' := [(3, .long 0), (2, .int 0), (0, .ref (a b)), (1, .int t)]) hx hb dX7_bestGain_22 rfl hl (by decide) rfl (fun ls hl => ?_)
    refine lv_iconst (v := 0) hx hb dX7_bestGain_23 (by decide) ?_
    refine lv_istore (lv' := [(5, .int 0), (3, .long 0), (2, .int 0), (0, .ref (a b)), (1, .int t)]) hx hb dX7_bestGain_24 hl (by decide) rfl (fun ls hl => ?_)
    have hJ_26 : ∀ no : Nat, ∀ (j : Nat) (y : Int32) (best : Int32) (least : Int64) (n1 : Nat → Int64) (q1 : Nat → Int32), (y = nI (250 * j)) → (j ≤ 21) → (22 ≤ j + no) → (mBGN u_16 u_16b (mIdeal μ) t.toNatClampNeg no j best least n1 q1 = mBG μ t.toNatClampNeg) → ∀ (H : Heap) (locs : List Loc) (ls : Array Slot), va_P (gD Γ) vwCl (modW Γ a b (n1, u_16, (mKept μ), (mKm μ), q1, u_16b, (mBef μ), (mUm μ), (mLow μ), (mHigh μ), (mNames μ), (mLen μ), (mText μ), (mPath μ), (mIdeal μ), (mSpot μ), (mWhich μ), (mNum μ))) H → va_D A (modW Γ a b (n1, u_16, (mKept μ), (mKm μ), q1, u_16b, (mBef μ), (mUm μ), (mLow μ), (mHigh μ), (mNames μ), (mLen μ), (mText μ), (mPath μ), (mIdeal μ), (mSpot μ), (mWhich μ), (mNum μ))) → va_S A s.heap H locs → lv_has ls 7 [(0, .ref (a b)), (1, .int t), (2, .int best), (3, .long least), (5, .int y)] → W p l e rm_X7_bestGain s m args below meth c H locs 0 0 Q (F0 m 26 ls []) := by
      intro no
      induction no with
      | zero =>
        intro j y best least n1 q1 ey hj hno hg
        omega
      | succ no iho =>
        intro j y best least n1 q1 ey hj hno hg H locs ls hP hD hS hl
        refine lv_iload hx hb dX7_bestGain_26 (lv_at hl 4 rfl) ?_
        refine lv_sipush (v := 5000) hx hb dX7_bestGain_28 (by decide) ?_
        refine lv_icmp_gt (tgt := 138) hx hb dX7_bestGain_31 (by decide) (fun c_31 => ?_) (fun c_31 => ?_)
        · -- yes
          have hbg : mBG μ t.toNatClampNeg = (best, n1, q1) := by rw [← hg, mBGN_s, ← ey, if_pos c_31]
          refine lv_aload_n hx hb dX7_bestGain_138 rfl (lv_at hl 0 rfl) ?_
          obtain ⟨u_139, eu_139⟩ : ∃ z : Nat → Int64, z = mCpL n1 u_16 681 := ⟨_, rfl⟩
          obtain ⟨u_139b, eu_139b⟩ : ∃ z : Nat → Int32, z = mCpI q1 u_16b 15 := ⟨_, rfl⟩
          have hM_139 : Cv Γ l yX7_putsBack wsX7_putsBack rm_X7_putsBack [.ref (a b)] (modW Γ a b (n1, u_16, (mKept μ), (mKm μ), q1, u_16b, (mBef μ), (mUm μ), (mLow μ), (mHigh μ), (mNames μ), (mLen μ), (mText μ), (mPath μ), (mIdeal μ), (mSpot μ), (mWhich μ), (mNum μ))) (modW Γ a b (u_139, u_16, (mKept μ), (mKm μ), u_139b, u_16b, (mBef μ), (mUm μ), (mLow μ), (mHigh μ), (mNames μ), (mLen μ), (mText μ), (mPath μ), (mIdeal μ), (mSpot μ), (mWhich μ), (mNum μ))) := by rw [eu_139, eu_139b]; exact c_X7_putsBack Γ l a b (n1, u_16, (mKept μ), (mKm μ), q1, u_16b, (mBef μ), (mUm μ), (mLow μ), (mHigh μ), (mNames μ), (mLen μ), (mText μ), (mPath μ), (mIdeal μ), (mSpot μ), (mWhich μ), (mNum μ))
          refine ca_Vva hh hl.1 hM_139 (cwV 0 hts gX7_bestGain_X7_putsBack rfl rfl rfl (by decide +kernel) ⟨(Nat.le_of_ble_eq_true rfl), (Nat.le_of_ble_eq_true rfl)⟩) (As := []) (rest := []) rfl dX7_bestGain_139 rfl (Nat.le_of_ble_eq_true rfl) hP hD hS (q0 := 0) (ci := 7) rfl rfl rfl (wf := modW Γ a b (u_139, u_16, (mKept μ), (mKm μ), u_139b, u_16b, (mBef μ), (mUm μ), (mLow μ), (mHigh μ), (mNames μ), (mLen μ), (mText μ), (mPath μ), (mIdeal μ), (mSpot μ), (mWhich μ), (mNum μ))) rfl ⟨Nat.zero_le _, Nat.zero_le _⟩ (fun H locs hP hD hS => ?_)
          refine lv_iload_n hx hb dX7_bestGain_142 rfl (lv_at hl 2 rfl) ?_
          exact re_i hQ ha hx hb hr hlk hAe hP hS dX7_bestGain_143 (by simp only [jBest, hbg, c_9, if_true, if_false]) (by simp only [hBest, hbg, mAsideL, mAsideP, hAside, mPut_par, mPut_aside, mPut_parAside, mPut_now, ← eu_16, ← eu_16b, ← eu_139, ← eu_139b, c_9, if_true, if_false])
        · -- no
          refine lv_aload_n hx hb dX7_bestGain_34 rfl (lv_at hl 0 rfl) ?_
          obtain ⟨u_35, eu_35⟩ : ∃ z : Nat → Int64, z = mCpL n1 u_16 681 := ⟨_, rfl⟩
          obtain ⟨u_35b, eu_35b⟩ : ∃ z : Nat → Int32, z = mCpI q1 u_16b 15 := ⟨_, rfl⟩
          have hM_35 : Cv Γ l yX7_putsBack wsX7_putsBack rm_X7_putsBack [.ref (a b)] (modW Γ a b (n1, u_16, (mKept μ), (mKm μ), q1, u_16b, (mBef μ), (mUm μ), (mLow μ), (mHigh μ), (mNames μ), (mLen μ), (mText μ), (mPath μ), (mIdeal μ), (mSpot μ), (mWhich μ), (mNum μ))) (modW Γ a b (u_35, u_16, (mKept μ), (mKm μ), u_35b, u_16b, (mBef μ), (mUm μ), (mLow μ), (mHigh μ), (mNames μ), (mLen μ), (mText μ), (mPath μ), (mIdeal μ), (mSpot μ), (mWhich μ), (mNum μ))) := by rw [eu_35, eu_35b]; exact c_X7_putsBack Γ l a b (n1, u_16, (mKept μ), (mKm μ), q1, u_16b, (mBef μ), (mUm μ), (mLow μ), (mHigh μ), (mNames μ), (mLen μ), (mText μ), (mPath μ), (mIdeal μ), (mSpot μ), (mWhich μ), (mNum μ))
          refine ca_Vva hh hl.1 hM_35 (cwV 0 hts gX7_bestGain_X7_putsBack rfl rfl rfl (by decide +kernel) ⟨(Nat.le_of_ble_eq_true rfl), (Nat.le_of_ble_eq_true rfl)⟩) (As := []) (rest := []) rfl dX7_bestGain_35 rfl (Nat.le_of_ble_eq_true rfl) hP hD hS (q0 := 0) (ci := 7) rfl rfl rfl (wf := modW Γ a b (u_35, u_16, (mKept μ), (mKm μ), u_35b, u_16b, (mBef μ), (mUm μ), (mLow μ), (mHigh μ), (mNames μ), (mLen μ), (mText μ), (mPath μ), (mIdeal μ), (mSpot μ), (mWhich μ), (mNum μ))) rfl ⟨Nat.zero_le _, Nat.zero_le _⟩ (fun H locs hP hD hS => ?_)
          refine lv_aload_n hx hb dX7_bestGain_38 rfl (lv_at hl 0 rfl) ?_
          refine va_get (D := gD Γ) (cl := vwCl) (tys := gTy Γ) (ci := 7) (v := .ref (a (b + 4))) (C := RX7) (T := TX7) (N := 18) hx hb hts iX7_bestGain_7 hown hK hP 0 rfl rfl 4 (Nat.le_of_ble_eq_true rfl) (hts (.fieldLink RX7 19 "DeadTimeLoopModel" "par" "[I") (List.mem_of_getElem? (i := 3) rfl)) (fun _ h9 => h9) rfl dX7_bestGain_39 ?_
          refine lv_iconst (v := 0) hx hb dX7_bestGain_42 (by decide) ?_
          refine lv_iload hx hb dX7_bestGain_43 (lv_at hl 4 rfl) ?_
          refine ka_iast (D := gD Γ) (cl := vwCl) (tys := gTy Γ) hx hb hK hP hD hS 4 0 rfl rfl 0 (by decide) (by decide) (by decide) (wf := modW Γ a b (u_35, u_16, (mKept μ), (mKm μ), (upd u_35b 0 y), u_16b, (mBef μ), (mUm μ), (mLow μ), (mHigh μ), (mNames μ), (mLen μ), (mText μ), (mPath μ), (mIdeal μ), (mSpot μ), (mWhich μ), (mNum μ))) rfl dX7_bestGain_45 (fun H locs hP hD hS => ?_)
          refine lv_aload_n hx hb dX7_bestGain_46 rfl (lv_at hl 0 rfl) ?_
          refine va_get (D := gD Γ) (cl := vwCl) (tys := gTy Γ) (ci := 7) (v := .ref (a (b + 1))) (C := RX7) (T := TX7) (N := 18) hx hb hts iX7_bestGain_7 hown hK hP 0 rfl rfl 0 (Nat.le_of_ble_eq_true rfl) (hts (.fieldLink RX7 7 "DeadTimeLoopModel" "now" "[J") (List.mem_of_getElem? (i := 4) rfl)) (fun _ h9 => h9) rfl dX7_bestGain_47 ?_
          refine lv_sipush (v := 656) hx hb dX7_bestGain_50 (by decide) ?_
          refine lv_lconst (v := 0) hx hb dX7_bestGain_53 (by decide) ?_
          refine ka_last (D := gD Γ) (cl := vwCl) (tys := gTy Γ) hx hb hK hP hD hS 1 1 rfl rfl 656 (by decide) (by decide) (by decide) (wf := modW Γ a b ((vp_updL u_35 656 0), u_16, (mKept μ), (mKm μ), (upd u_35b 0 y), u_16b, (mBef μ), (mUm μ), (mLow μ), (mHigh μ), (mNames μ), (mLen μ), (mText μ), (mPath μ), (mIdeal μ), (mSpot μ), (mWhich μ), (mNum μ))) rfl dX7_bestGain_54 (fun H locs hP hD hS => ?_)
          refine lv_iconst (v := 0) hx hb dX7_bestGain_55 (by decide) ?_
          refine lv_istore (lv' := [(6, .int 0), (0, .ref (a b)), (1, .int t), (2, .int best), (3, .long least), (5, .int y)]) hx hb dX7_bestGain_56 hl (by decide) rfl (fun ls hl => ?_)
          have hJ_58 : ∀ n : Nat, ∀ (k : Nat) (z : Int32) (n2 : Nat → Int64), (z = nI k) → (k ≤ t.toNatClampNeg) → (t.toNatClampNeg + 1 ≤ k + n) → (n2 640 = lN (N + k)) → (mOk n2) → (mAdv (upd u_35b 0 y) (mIdeal μ) (t.toNatClampNeg - k) n2 = mAdv (upd u_35b 0 y) (mIdeal μ) t.toNatClampNeg (vp_updL u_35 656 0)) → ∀ (H : Heap) (locs : List Loc) (ls : Array Slot), va_P (gD Γ) vwCl (modW Γ a b (n2, u_16, (mKept μ), (mKm μ), (upd u_35b 0 y), u_16b, (mBef μ), (mUm μ), (mLow μ), (mHigh μ), (mNames μ), (mLen μ), (mText μ), (mPath μ), (mIdeal μ), (mSpot μ), (mWhich μ), (mNum μ))) H → va_D A (modW Γ a b (n2, u_16, (mKept μ), (mKm μ), (upd u_35b 0 y), u_16b, (mBef μ), (mUm μ), (mLow μ), (mHigh μ), (mNames μ), (mLen μ), (mText μ), (mPath μ), (mIdeal μ), (mSpot μ), (mWhich μ), (mNum μ))) → va_S A s.heap H locs → lv_has ls 7 [(0, .ref (a b)), (1, .int t), (2, .int best), (3, .long least), (5, .int y), (6, .int z)] → W p l e rm_X7_bestGain s m args below meth c H locs 0 0 Q (F0 m 58 ls []) := by
            intro n
            induction n with
            | zero =>
              intro k z n2 ek hk hn hs hok2 hg2
              omega
            | succ n ih =>
              intro k z n2 ek hk hn hs hok2 hg2 H locs ls hP hD hS hl
              refine lv_iload hx hb dX7_bestGain_58 (lv_at hl 5 rfl) ?_
              refine lv_iload_n hx hb dX7_bestGain_60 rfl (lv_at hl 1 rfl) ?_
              refine lv_icmp_ge (tgt := 74) hx hb dX7_bestGain_61 (by decide) (fun c_61 => ?_) (fun c_61 => ?_)
              · -- yes
                have hkT : k = t.toNatClampNeg := (by have q0 := c_61; rw [hT.1, ek] at q0; rcases Nat.lt_or_ge k t.toNatClampNeg with q | q; exact absurd q0 (nI_ge q (by omega)); omega)
                have hgn : mGainN n1 u_16 (mGainQ q1 u_16b y) (mIdeal μ) t.toNatClampNeg = n2 := by rw [mGainN, mGainQ, ← eu_35, ← eu_35b, ← hg2, hkT, Nat.sub_self]; rfl
                have hgq : mGainQ q1 u_16b y = (upd u_35b 0 y) := by rw [mGainQ, ← eu_35b]
                refine lv_iload hx hb dX7_bestGain_74 (lv_at hl 4 rfl) ?_
                refine lv_if_eq (tgt := 92) hx hb dX7_bestGain_76 (by decide) (fun c_76 => ?_) (fun c_76 => ?_)
                · -- yes
                  refine lv_iconst (v := 1) hx hb dX7_bestGain_92 (by decide) ?_
                  refine lv_goto (tgt := 97) hx hb dX7_bestGain_93 (by decide) ?_
                  refine lv_istore (lv' := [(6, .int 1), (0, .ref (a b)), (1, .int t), (2, .int best), (3, .long least), (5, .int y)]) hx hb dX7_bestGain_97 hl (by decide) rfl (fun ls hl => ?_)
                  refine lv_iload hx hb dX7_bestGain_99 (lv_at hl 0 rfl) ?_
                  refine lv_if_eq (tgt := 109) hx hb dX7_bestGain_101 (by decide) (fun c => absurd c (by decide)) (fun _ => ?_)
                  refine lv_iload hx hb dX7_bestGain_104 (lv_at hl 5 rfl) ?_
                  refine lv_goto (tgt := 110) hx hb dX7_bestGain_106 (by decide) ?_
                  refine lv_istore_n (lv' := [(2, .int y), (6, .int 1), (0, .ref (a b)), (1, .int t), (3, .long least), (5, .int y)]) hx hb dX7_bestGain_110 rfl hl (by decide) rfl (fun ls hl => ?_)
                  refine lv_iload hx hb dX7_bestGain_111 (lv_at hl 1 rfl) ?_
                  refine lv_if_eq (tgt := 127) hx hb dX7_bestGain_113 (by decide) (fun c => absurd c (by decide)) (fun _ => ?_)
                  refine lv_aload_n hx hb dX7_bestGain_116 rfl (lv_at hl 2 rfl) ?_
                  refine va_get (D := gD Γ) (cl := vwCl) (tys := gTy Γ) (ci := 7) (v := .ref (a (b + 1))) (C := RX7) (T := TX7) (N := 18) hx hb hts iX7_bestGain_7 hown hK hP 0 rfl rfl 0 (Nat.le_of_ble_eq_true rfl) (hts (.fieldLink RX7 7 "DeadTimeLoopModel" "now" "[J") (List.mem_of_getElem? (i := 4) rfl)) (fun _ h9 => h9) rfl dX7_bestGain_117 ?_
                  refine lv_sipush (v := 656) hx hb dX7_bestGain_120 (by decide) ?_
                  refine ka_lald (D := gD Γ) (cl := vwCl) (tys := gTy Γ) hx hb hK hP 1 1 rfl rfl 656 (by decide) (by decide) (by decide) (v := (n2 656)) rfl dX7_bestGain_123 ?_
                  refine lv_goto (tgt := 128) hx hb dX7_bestGain_124 (by decide) ?_
                  refine lv_lstore_n (lv' := [(3, .long (n2 656)), (2, .int y), (6, .int 1), (0, .ref (a b)), (1, .int t), (5, .int y)]) hx hb dX7_bestGain_128 rfl hl (by decide) rfl (fun ls hl => ?_)
                  refine lv_iincW (v := (y + 250)) (lv' := [(5, .int (y + 250)), (3, .long (n2 656)), (2, .int y), (6, .int 1), (0, .ref (a b)), (1, .int t)]) hx hb dX7_bestGain_129 hl (k := 5) rfl rfl (by decide) rfl (fun ls hl => ?_)
                  refine lv_goto (tgt := 26) hx hb dX7_bestGain_135 (by decide) ?_
                  exact iho (j + 1) _ _ _ _ _ (by rw [ey]; exact nI_add (250 * j) 250) (by rw [ey, show (5000 : Int32) = nI 5000 from rfl, nI_ltI (by decide) (by omega)] at c_31; omega) (by omega) (by rw [← hg, mBGN_s, ← ey, if_neg c_31, hgn, hgq]; simp only [c_9, c_31, c_61, c_76, if_true, if_false]) _ _ _ hP hD hS (lv_sub hl [4, 5, 2, 1, 0] rfl)
                · -- no
                  refine lv_aload_n hx hb dX7_bestGain_79 rfl (lv_at hl 0 rfl) ?_
                  refine va_get (D := gD Γ) (cl := vwCl) (tys := gTy Γ) (ci := 7) (v := .ref (a (b + 1))) (C := RX7) (T := TX7) (N := 18) hx hb hts iX7_bestGain_7 hown hK hP 0 rfl rfl 0 (Nat.le_of_ble_eq_true rfl) (hts (.fieldLink RX7 7 "DeadTimeLoopModel" "now" "[J") (List.mem_of_getElem? (i := 4) rfl)) (fun _ h9 => h9) rfl dX7_bestGain_80 ?_
                  refine lv_sipush (v := 656) hx hb dX7_bestGain_83 (by decide) ?_
                  refine ka_lald (D := gD Γ) (cl := vwCl) (tys := gTy Γ) hx hb hK hP 1 1 rfl rfl 656 (by decide) (by decide) (by decide) (v := (n2 656)) rfl dX7_bestGain_86 ?_
                  refine lv_lload_n hx hb dX7_bestGain_87 rfl (lv_at hl 3 rfl) ?_
                  refine W.lcmp hx hb dX7_bestGain_88 ?_
                  refine lv_if_ge (tgt := 96) hx hb dX7_bestGain_89 (by decide) (fun c_89 => ?_) (fun c_89 => ?_)
                  · -- yes
                    have c_89 := (lg_cmp_ge _ _).mp c_89
                    refine lv_iconst (v := 0) hx hb dX7_bestGain_96 (by decide) ?_
                    refine lv_istore (lv' := [(6, .int 0), (0, .ref (a b)), (1, .int t), (2, .int best), (3, .long least), (5, .int y)]) hx hb dX7_bestGain_97 hl (by decide) rfl (fun ls hl => ?_)
                    refine lv_iload hx hb dX7_bestGain_99 (lv_at hl 0 rfl) ?_
                    refine lv_if_eq (tgt := 109) hx hb dX7_bestGain_101 (by decide) (fun _ => ?_) (fun c => (c (by decide)).elim)
                    refine lv_iload_n hx hb dX7_bestGain_109 rfl (lv_at hl 3 rfl) ?_
                    refine lv_istore_n (lv' := [(2, .int best), (6, .int 0), (0, .ref (a b)), (1, .int t), (3, .long least), (5, .int y)]) hx hb dX7_bestGain_110 rfl hl (by decide) rfl (fun ls hl => ?_)
                    refine lv_iload hx hb dX7_bestGain_111 (lv_at hl 1 rfl) ?_
                    refine lv_if_eq (tgt := 127) hx hb dX7_bestGain_113 (by decide) (fun _ => ?_) (fun c => (c (by decide)).elim)
                    refine lv_lload_n hx hb dX7_bestGain_127 rfl (lv_at hl 4 rfl) ?_
                    refine lv_lstore_n (lv' := [(3, .long least), (2, .int best), (6, .int 0), (0, .ref (a b)), (1, .int t), (5, .int y)]) hx hb dX7_bestGain_128 rfl hl (by decide) rfl (fun ls hl => ?_)
                    refine lv_iincW (v := (y + 250)) (lv' := [(5, .int (y + 250)), (3, .long least), (2, .int best), (6, .int 0), (0, .ref (a b)), (1, .int t)]) hx hb dX7_bestGain_129 hl (k := 5) rfl rfl (by decide) rfl (fun ls hl => ?_)
                    refine lv_goto (tgt := 26) hx hb dX7_bestGain_135 (by decide) ?_
                    exact iho (j + 1) _ _ _ _ _ (by rw [ey]; exact nI_add (250 * j) 250) (by rw [ey, show (5000 : Int32) = nI 5000 from rfl, nI_ltI (by decide) (by omega)] at c_31; omega) (by omega) (by rw [← hg, mBGN_s, ← ey, if_neg c_31, hgn, hgq]; simp only [c_9, c_31, c_61, c_76, c_89, if_true, if_false]) _ _ _ hP hD hS (lv_sub hl [4, 5, 2, 1, 0] rfl)
                  · -- no
                    have c_89 := mt (lg_cmp_ge _ _).mpr c_89
                    refine lv_iconst (v := 1) hx hb dX7_bestGain_92 (by decide) ?_
                    refine lv_goto (tgt := 97) hx hb dX7_bestGain_93 (by decide) ?_
                    refine lv_istore (lv' := [(6, .int 1), (0, .ref (a b)), (1, .int t), (2, .int best), (3, .long least), (5, .int y)]) hx hb dX7_bestGain_97 hl (by decide) rfl (fun ls hl => ?_)
                    refine lv_iload hx hb dX7_bestGain_99 (lv_at hl 0 rfl) ?_
                    refine lv_if_eq (tgt := 109) hx hb dX7_bestGain_101 (by decide) (fun c => absurd c (by decide)) (fun _ => ?_)
                    refine lv_iload hx hb dX7_bestGain_104 (lv_at hl 5 rfl) ?_
                    refine lv_goto (tgt := 110) hx hb dX7_bestGain_106 (by decide) ?_
                    refine lv_istore_n (lv' := [(2, .int y), (6, .int 1), (0, .ref (a b)), (1, .int t), (3, .long least), (5, .int y)]) hx hb dX7_bestGain_110 rfl hl (by decide) rfl (fun ls hl => ?_)
                    refine lv_iload hx hb dX7_bestGain_111 (lv_at hl 1 rfl) ?_
                    refine lv_if_eq (tgt := 127) hx hb dX7_bestGain_113 (by decide) (fun c => absurd c (by decide)) (fun _ => ?_)
                    refine lv_aload_n hx hb dX7_bestGain_116 rfl (lv_at hl 2 rfl) ?_
                    refine va_get (D := gD Γ) (cl := vwCl) (tys := gTy Γ) (ci := 7) (v := .ref (a (b + 1))) (C := RX7) (T := TX7) (N := 18) hx hb hts iX7_bestGain_7 hown hK hP 0 rfl rfl 0 (Nat.le_of_ble_eq_true rfl) (hts (.fieldLink RX7 7 "DeadTimeLoopModel" "now" "[J") (List.mem_of_getElem? (i := 4) rfl)) (fun _ h9 => h9) rfl dX7_bestGain_117 ?_
                    refine lv_sipush (v := 656) hx hb dX7_bestGain_120 (by decide) ?_
                    refine ka_lald (D := gD Γ) (cl := vwCl) (tys := gTy Γ) hx hb hK hP 1 1 rfl rfl 656 (by decide) (by decide) (by decide) (v := (n2 656)) rfl dX7_bestGain_123 ?_
                    refine lv_goto (tgt := 128) hx hb dX7_bestGain_124 (by decide) ?_
                    refine lv_lstore_n (lv' := [(3, .long (n2 656)), (2, .int y), (6, .int 1), (0, .ref (a b)), (1, .int t), (5, .int y)]) hx hb dX7_bestGain_128 rfl hl (by decide) rfl (fun ls hl => ?_)
                    refine lv_iincW (v := (y + 250)) (lv' := [(5, .int (y + 250)), (3, .long (n2 656)), (2, .int y), (6, .int 1), (0, .ref (a b)), (1, .int t)]) hx hb dX7_bestGain_129 hl (k := 5) rfl rfl (by decide) rfl (fun ls hl => ?_)
                    refine lv_goto (tgt := 26) hx hb dX7_bestGain_135 (by decide) ?_
                    exact iho (j + 1) _ _ _ _ _ (by rw [ey]; exact nI_add (250 * j) 250) (by rw [ey, show (5000 : Int32) = nI 5000 from rfl, nI_ltI (by decide) (by omega)] at c_31; omega) (by omega) (by rw [← hg, mBGN_s, ← ey, if_neg c_31, hgn, hgq]; simp only [c_9, c_31, c_61, c_76, c_89, if_true, if_false]) _ _ _ hP hD hS (lv_sub hl [4, 5, 2, 1, 0] rfl)
              · -- no
                have hlt : k < t.toNatClampNeg := (by have q0 := c_61; rw [hT.1, ek] at q0; exact lt_of_nle q0 (by omega) (by omega))
                refine lv_aload_n hx hb dX7_bestGain_64 rfl (lv_at hl 0 rfl) ?_
                obtain ⟨u_65, eu_65⟩ : ∃ z : Nat → Int64, z = mTick n2 (upd u_35b 0 y) (mIdeal μ) := ⟨_, rfl⟩
                have hM_65 : Cv Γ l yX7_ticks wsX7_ticks rm_X7_ticks [.ref (a b)] (modW Γ a b (n2, u_16, (mKept μ), (mKm μ), (upd u_35b 0 y), u_16b, (mBef μ), (mUm μ), (mLow μ), (mHigh μ), (mNames μ), (mLen μ), (mText μ), (mPath μ), (mIdeal μ), (mSpot μ), (mWhich μ), (mNum μ))) (modW Γ a b (u_65, u_16, (mKept μ), (mKm μ), (upd u_35b 0 y), u_16b, (mBef μ), (mUm μ), (mLow μ), (mHigh μ), (mNames μ), (mLen μ), (mText μ), (mPath μ), (mIdeal μ), (mSpot μ), (mWhich μ), (mNum μ))) := by rw [eu_65]; exact c_X7_ticks Γ l a b (n2, u_16, (mKept μ), (mKm μ), (upd u_35b 0 y), u_16b, (mBef μ), (mUm μ), (mLow μ), (mHigh μ), (mNames μ), (mLen μ), (mText μ), (mPath μ), (mIdeal μ), (mSpot μ), (mWhich μ), (mNum μ)) hok2
                refine ca_Vva hh hl.1 hM_65 (cwV 0 hts gX7_bestGain_X7_ticks rfl rfl rfl (by decide +kernel) ⟨(Nat.le_of_ble_eq_true rfl), (Nat.le_of_ble_eq_true rfl)⟩) (As := []) (rest := []) rfl dX7_bestGain_65 rfl (Nat.le_of_ble_eq_true rfl) hP hD hS (q0 := 0) (ci := 7) rfl rfl rfl (wf := modW Γ a b (u_65, u_16, (mKept μ), (mKm μ), (upd u_35b 0 y), u_16b, (mBef μ), (mUm μ), (mLow μ), (mHigh μ), (mNames μ), (mLen μ), (mText μ), (mPath μ), (mIdeal μ), (mSpot μ), (mWhich μ), (mNum μ))) rfl ⟨Nat.zero_le _, Nat.zero_le _⟩ (fun H locs hP hD hS => ?_)
                refine lv_iinc (v := (z + 1)) (lv' := [(6, .int (z + 1)), (0, .ref (a b)), (1, .int t), (2, .int best), (3, .long least), (5, .int y)]) hx hb dX7_bestGain_68 hl (k := 5) rfl rfl (by decide) rfl (fun ls hl => ?_)
                refine lv_goto (tgt := 58) hx hb dX7_bestGain_71 (by decide) ?_
                exact ih (k + 1) _ _ (by rw [ek]; exact nI_1 k) (by omega) (by omega) (by rw [eu_65]; exact (mOk_tick _ _ hok2 hs (by omega)).2) (by rw [eu_65]; exact (mOk_tick _ _ hok2 hs (by omega)).1) (by rw [← hg2, show t.toNatClampNeg - k = (t.toNatClampNeg - (k + 1)) + 1 from by omega, mAdv_s, eu_65]) _ _ _ hP hD hS (lv_sub hl [1, 2, 3, 4, 5, 0] rfl)
          exact hJ_58 (t.toNatClampNeg + 1) 0 0 _ rfl (by omega) (by omega) (by rw [pk_uLn (by decide), eu_35, eu_16, cpcp _ _ _ (by decide)]; exact hN) (by rw [eu_35, eu_16]; exact mOk_upd (by decide) (mOk_cp hok)) rfl _ _ _ hP hD hS (lv_sub hl [1, 2, 3, 4, 5, 0] rfl)
    exact hJ_26 22 0 0 _ _ _ _ rfl (by omega) (by omega) (by rw [mBG, mAsideL, mAsideP, eu_16, eu_16b]) _ _ _ hP hD hS (lv_sub hl [3, 4, 2, 1, 0] rfl)
  · -- no
    refine lv_ldc hx hb hown (hts (.constant RX7 74 (-2000000001)) (List.mem_of_getElem? (i := 2) rfl)) dX7_bestGain_12 ?_
    exact re_i hQ ha hx hb hr hlk hAe hP hS dX7_bestGain_14 (by simp only [jBest, c_9, if_true, if_false]) (by simp only [hBest, mAsideL, mAsideP, hAside, mPut_par, mPut_aside, mPut_parAside, mPut_now, c_9, if_true, if_false])
