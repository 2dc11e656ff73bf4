def rm_X7_faultOf : Room := { frames := 3, cells := 0, slots := 0, locals := 68 }
theorem iX7_faultOf_7 : ∀ w ∈ u_ws RX7 TX7 18, w ∈ wsX7_faultOf := fun w h => (List.mem_cons_of_mem _ (List.mem_append_right _ h))
set_option maxHeartbeats 1000000 in
set_option maxRecDepth 100000 in
theorem c_X7_faultOf (Γ : gT) (l : Launch) (a : Nat → Nat) (b : Nat) (μ : Mst) (hnm : nmOk (mNames μ)) (hL : lenOk (mLen μ)) : Ci Γ l yX7_faultOf wsX7_faultOf rm_X7_faultOf [.ref (a b)] (modW Γ a b μ) ((aFl μ).1) (modW Γ a b ((mNow μ), (mAside μ), (mKept μ), (mKm μ), (mPar μ), (mParA μ), (mBef μ), (mUm μ), (mLow μ), (mHigh μ), (mNames μ), (mLen μ), (mText μ), (mPath μ), (mIdeal μ), ((aFl μ).2.1), ((aFl μ).2.2.1), ((aFl μ).2.2.2))) := by
  refine Ci.of (cc := cX7_faultOf) (own := RX7) (nL := 2) (ret := (some .int)) (by decide +kernel) rfl rfl (Nat.le_of_ble_eq_true rfl) ?_
  intro p e s m args below meth c A Q H locs ls ha hAe hQ hx hb hml hr hts hown hlk hP hK hD hS hA hG hl
  have hh : Hd Γ p s m args c cX7_faultOf RX7 2 wsX7_faultOf A := ⟨⟨hx, hb, hml, hown, hts⟩, hK, hA, hG⟩
  have hl : lv_has ls 2 [(0, .ref (a b))] := hl
  obtain ⟨L, hL80, eL⟩ := id hL
  refine lv_aload_n hx hb dX7_faultOf_0 rfl (lv_at hl 0 rfl) ?_
  refine lv_iconst (v := 0) hx hb dX7_faultOf_1 (by decide) ?_
  refine va_put (D := gD Γ) (cl := vwCl) (tys := gTy Γ) (ci := 7) (v := .int 0) (ty := tyX7 15) (C := RX7) (T := TX7) (N := 18) hx hb hts iX7_faultOf_7 tyX7 tyX7_ok nmX7 hown hK hP hD hS 0 rfl rfl 15 (Nat.le_of_ble_eq_true rfl) (hts (.fieldLink RX7 98 "DeadTimeLoopModel" "spot" "I") (List.mem_of_getElem? (i := 1) rfl)) (fun _ h9 => h9) rfl (tyX7_ok 15 (Nat.le_of_ble_eq_true rfl)) rfl rfl (Nat.le_of_ble_eq_true rfl) dX7_faultOf_2 (fun H locs hP hD hS => ?_)
  have hP : va_P (gD Γ) vwCl (modW Γ a b ((mNow μ), (mAside μ), (mKept μ), (mKm μ), (mPar μ), (mParA μ), (mBef μ), (mUm μ), (mLow μ), (mHigh μ), (mNames μ), (mLen μ), (mText μ), (mPath μ), (mIdeal μ), 0, (mWhich μ), (mNum μ))) H := hP
  have hD : va_D A (modW Γ a b ((mNow μ), (mAside μ), (mKept μ), (mKm μ), (mPar μ), (mParA μ), (mBef μ), (mUm μ), (mLow μ), (mHigh μ), (mNames μ), (mLen μ), (mText μ), (mPath μ), (mIdeal μ), 0, (mWhich μ), (mNum μ))) := hD
  have hJ_5 : ∀ n : Nat, ∀ (S : Nat) (y : Int32) (w1 : Int32) (m1 : Int32), (y = nI S) → (S < 2 ^ 31) → (L - S < n) → (aFltN (mText μ) (mLen μ) (mLow μ) (mHigh μ) n y w1 m1 = aFltN (mText μ) (mLen μ) (mLow μ) (mHigh μ) 81 0 (mWhich μ) (mNum μ)) → ∀ (H : Heap) (locs : List Loc) (ls : Array Slot), va_P (gD Γ) vwCl (modW Γ a b ((mNow μ), (mAside μ), (mKept μ), (mKm μ), (mPar μ), (mParA μ), (mBef μ), (mUm μ), (mLow μ), (mHigh μ), (mNames μ), (mLen μ), (mText μ), (mPath μ), (mIdeal μ), y, w1, m1)) H → va_D A (modW Γ a b ((mNow μ), (mAside μ), (mKept μ), (mKm μ), (mPar μ), (mParA μ), (mBef μ), (mUm μ), (mLow μ), (mHigh μ), (mNames μ), (mLen μ), (mText μ), (mPath μ), (mIdeal μ), y, w1, m1)) → va_S A s.heap H locs → lv_has ls 2 [(0, .ref (a b))] → W p l e rm_X7_faultOf s m args below meth c H locs 0 0 Q (F0 m 5 ls []) := by
    intro n
    induction n with
    | zero =>
      intro S y w1 m1 ey hSb hn hg
      omega
    | succ n ih =>
      intro S y w1 m1 ey hSb hn hg H locs ls hP hD hS hl
      refine lv_aload_n hx hb dX7_faultOf_5 rfl (lv_at hl 0 rfl) ?_
      refine va_get (D := gD Γ) (cl := vwCl) (tys := gTy Γ) (ci := 7) (v := .int y) (C := RX7) (T := TX7) (N := 18) hx hb hts iX7_faultOf_7 hown hK hP 0 rfl rfl 15 (Nat.le_of_ble_eq_true rfl) (hts (.fieldLink RX7 98 "DeadTimeLoopModel" "spot" "I") (List.mem_of_getElem? (i := 1) rfl)) (fun _ h9 => h9) rfl dX7_faultOf_6 ?_
      refine lv_aload_n hx hb dX7_faultOf_9 rfl (lv_at hl 0 rfl) ?_
      refine va_get (D := gD Γ) (cl := vwCl) (tys := gTy Γ) (ci := 7) (v := .int (mLen μ)) (C := RX7) (T := TX7) (N := 18) hx hb hts iX7_faultOf_7 hown hK hP 0 rfl rfl 11 (Nat.le_of_ble_eq_true rfl) (hts (.fieldLink RX7 94 "DeadTimeLoopModel" "length" "I") (List.mem_of_getElem? (i := 2) rfl)) (fun _ h9 => h9) rfl dX7_faultOf_10 ?_
      refine lv_icmp_ge (tgt := 33) hx hb dX7_faultOf_13 (by decide) (fun c_13 => ?_) (fun c_13 => ?_)
      · -- yes
        refine lv_ldc hx hb hown (hts (.constant RX7 82 (-2000000004)) (List.mem_of_getElem? (i := 3) rfl)) dX7_faultOf_33 ?_
        exact re_i hQ ha hx hb hr hlk hAe hP hS dX7_faultOf_35 (by rw [aFl, aFlt, ← hg, aFltN_s, if_pos c_13]) (by rw [aFl, aFlt, ← hg, aFltN_s, if_pos c_13] <;> rfl)
      · -- no
        refine lv_aload_n hx hb dX7_faultOf_16 rfl (lv_at hl 0 rfl) ?_
        refine va_get (D := gD Γ) (cl := vwCl) (tys := gTy Γ) (ci := 7) (v := .int y) (C := RX7) (T := TX7) (N := 18) hx hb hts iX7_faultOf_7 hown hK hP 0 rfl rfl 15 (Nat.le_of_ble_eq_true rfl) (hts (.fieldLink RX7 98 "DeadTimeLoopModel" "spot" "I") (List.mem_of_getElem? (i := 1) rfl)) (fun _ h9 => h9) rfl dX7_faultOf_17 ?_
        refine lv_istore_n (lv' := [(1, .int y), (0, .ref (a b))]) hx hb dX7_faultOf_20 rfl hl (by decide) rfl (fun ls hl => ?_)
        refine lv_aload_n hx hb dX7_faultOf_21 rfl (lv_at hl 1 rfl) ?_
        obtain ⟨u_22, eu_22⟩ : ∃ z : Int32, z = aSp (mText μ) (mLen μ) y := ⟨_, rfl⟩
        obtain ⟨u_22b, eu_22b⟩ : ∃ z : Int32, z = aWh (mText μ) (mLen μ) y := ⟨_, rfl⟩
        obtain ⟨u_22c, eu_22c⟩ : ∃ z : Int32, z = aNm (mText μ) (mLen μ) y m1 := ⟨_, rfl⟩
        have hM_22 : Ci Γ l yX7_isAssignment wsX7_isAssignment rm_X7_isAssignment [.ref (a b)] (modW Γ a b ((mNow μ), (mAside μ), (mKept μ), (mKm μ), (mPar μ), (mParA μ), (mBef μ), (mUm μ), (mLow μ), (mHigh μ), (mNames μ), (mLen μ), (mText μ), (mPath μ), (mIdeal μ), y, w1, m1)) (aR (mText μ) (mLen μ) (mLow μ) (mHigh μ) y) (modW Γ a b ((mNow μ), (mAside μ), (mKept μ), (mKm μ), (mPar μ), (mParA μ), (mBef μ), (mUm μ), (mLow μ), (mHigh μ), (mNames μ), (mLen μ), (mText μ), (mPath μ), (mIdeal μ), u_22, u_22b, u_22c)) := by rw [eu_22, eu_22b, eu_22c]; exact c_X7_isAsg Γ l a b ((mNow μ), (mAside μ), (mKept μ), (mKm μ), (mPar μ), (mParA μ), (mBef μ), (mUm μ), (mLow μ), (mHigh μ), (mNames μ), (mLen μ), (mText μ), (mPath μ), (mIdeal μ), y, w1, m1) hnm hL (show lenOk y from ⟨S, by have := lt_spot hL80 eL hSb (by rw [← ey]; exact c_13); omega, ey⟩)
        refine ca_Via hh hl.1 hM_22 (cwV 0 hts gX7_faultOf_X7_isAssignment rfl rfl rfl (by decide +kernel) ⟨(Nat.le_of_ble_eq_true rfl), (Nat.le_of_ble_eq_true rfl)⟩) (As := []) (rest := []) rfl dX7_faultOf_22 rfl (Nat.le_of_ble_eq_true rfl) hP hD hS (q0 := 0) (ci := 7) rfl rfl rfl (wf := modW Γ a b ((mNow μ), (mAside μ), (mKept μ), (mKm μ), (mPar μ), (mParA μ), (mBef μ), (mUm μ), (mLow μ), (mHigh μ), (mNames μ), (mLen μ), (mText μ), (mPath μ), (mIdeal μ), u_22, u_22b, u_22c)) rfl ⟨Nat.zero_le _, Nat.zero_le _⟩ (fun H locs hP hD hS => ?_)
        refine lv_if_ne (tgt := 30) hx hb dX7_faultOf_25 (by decide) (fun c_25 => ?_) (fun c_25 => ?_)
        · -- yes
          obtain ⟨S1, g1, g2, g3⟩ := as_adv (c := mText μ) (len := mLen μ) (lo := mLow μ) (hi := mHigh μ) (S := S) (by have := lt_spot hL80 eL hSb (by rw [← ey]; exact c_13); omega) (by rw [← ey]; exact c_25)
          have gl := lt_spot hL80 eL hSb (by rw [← ey]; exact c_13)
          refine lv_goto (tgt := 5) hx hb dX7_faultOf_30 (by decide) ?_
          exact ih S1 _ _ _ (by rw [eu_22, ey]; exact g3) (by omega) (by omega) (by rw [← hg, aFltN_s, if_neg c_13, if_neg c_25, eu_22, eu_22b, eu_22c]) _ _ _ hP hD hS (lv_sub hl [1] rfl)
        · -- no
          refine lv_iload_n hx hb dX7_faultOf_28 rfl (lv_at hl 0 rfl) ?_
          exact re_i hQ ha hx hb hr hlk hAe hP hS dX7_faultOf_29 (by rw [aFl, aFlt, ← hg, aFltN_s, if_neg c_13, if_pos c_25]) (by rw [aFl, aFlt, ← hg, aFltN_s, if_neg c_13, if_pos c_25, eu_22, eu_22b, eu_22c] <;> rfl)
  exact hJ_5 81 0 0 _ _ rfl (by omega) (by omega) rfl _ _ _ hP hD hS (lv_sub hl [0] rfl)
def rm_X7_fault : Room := { frames := 4, cells := 0, slots := 0, locals := 89 }
set_option maxHeartbeats 1000000 in
set_option maxRecDepth 100000 in
theorem c_X7_fault (Γ : gT) (l : Launch) (a : Nat → Nat) (b : Nat) (μ : Mst) (hnm : nmOk (mNames μ)) (hL : lenOk (mLen μ)) : Ci Γ l yX7_fault wsX7_fault rm_X7_fault [.ref (a b)] (modW Γ a b μ) (jFault μ) (modW Γ a b (hFault μ)) := by
  refine Ci.of (cc := cX7_fault) (own := RX7) (nL := 1) (ret := (some .int)) (by decide +kernel) rfl rfl (Nat.le_of_ble_eq_true rfl) ?_
  intro p e s m args below meth c A Q H locs ls ha hAe hQ hx hb hml hr hts hown hlk hP hK hD hS hA hG hl
  have hh : Hd Γ p s m args c cX7_fault RX7 1 wsX7_fault A := ⟨⟨hx, hb, hml, hown, hts⟩, hK, hA, hG⟩
  have hl : lv_has ls 1 [(0, .ref (a b))] := hl
  refine lv_aload_n hx hb dX7_fault_0 rfl (lv_at hl 0 rfl) ?_
  obtain ⟨u_1, eu_1⟩ : ∃ z : Int32, z = (aFl μ).2.1 := ⟨_, rfl⟩
  obtain ⟨u_1b, eu_1b⟩ : ∃ z : Int32, z = (aFl μ).2.2.1 := ⟨_, rfl⟩
  obtain ⟨u_1c, eu_1c⟩ : ∃ z : Int32, z = (aFl μ).2.2.2 := ⟨_, rfl⟩
  have hM_1 : Ci Γ l yX7_faultOf wsX7_faultOf rm_X7_faultOf [.ref (a b)] (modW Γ a b μ) ((aFl μ).1) (modW Γ a b ((mNow μ), (mAside μ), (mKept μ), (mKm μ), (mPar μ), (mParA μ), (mBef μ), (mUm μ), (mLow μ), (mHigh μ), (mNames μ), (mLen μ), (mText μ), (mPath μ), (mIdeal μ), u_1, u_1b, u_1c)) := by rw [eu_1, eu_1b, eu_1c]; exact c_X7_faultOf Γ l a b μ hnm hL
  refine ca_Via hh hl.1 hM_1 (cwV 0 hts gX7_fault_X7_faultOf rfl rfl rfl (by decide +kernel) ⟨(Nat.le_of_ble_eq_true rfl), (Nat.le_of_ble_eq_true rfl)⟩) (As := []) (rest := []) rfl dX7_fault_1 rfl (Nat.le_of_ble_eq_true rfl) hP hD hS (q0 := 0) (ci := 7) rfl rfl rfl (wf := modW Γ a b ((mNow μ), (mAside μ), (mKept μ), (mKm μ), (mPar μ), (mParA μ), (mBef μ), (mUm μ), (mLow μ), (mHigh μ), (mNames μ), (mLen μ), (mText μ), (mPath μ), (mIdeal μ), u_1, u_1b, u_1c)) rfl ⟨Nat.zero_le _, Nat.zero_le _⟩ (fun H locs hP hD hS => ?_)
  exact re_i hQ ha hx hb hr hlk hAe hP hS dX7_fault_4 rfl (by rw [eu_1, eu_1b, eu_1c] <;> rfl)
