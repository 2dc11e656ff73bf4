def rm_X7_isAssignment : Room := { frames := 2, cells := 0, slots := 0, locals := 46 }
theorem iX7_isAssignment_7 : ∀ w ∈ u_ws RX7 TX7 18, w ∈ wsX7_isAssignment := fun w h => (List.mem_cons_of_mem _ (List.mem_append_right _ h))
set_option maxHeartbeats 20000000 in
set_option maxRecDepth 100000 in
theorem c_X7_isAssignment (Γ : gT) (l : Launch) (a : Nat → Nat) (b : Nat) (μ : Mst) (hnm : nmOk (mNames μ)) (hL : lenOk (mLen μ)) (hsp : lenOk (mSpot μ)) : Ci Γ l yX7_isAssignment wsX7_isAssignment rm_X7_isAssignment [.ref (a b)] (modW Γ a b μ) (aR (mText μ) (mLen μ) (mLow μ) (mHigh μ) (mSpot μ)) (modW Γ a b (mPut_number (mPut_which (mPut_spot μ (aSp (mText μ) (mLen μ) (mSpot μ))) (aWh (mText μ) (mLen μ) (mSpot μ))) (aNm (mText μ) (mLen μ) (mSpot μ) (mNum μ)))) := by
  refine Ci.of (cc := cX7_isAssignment) (own := RX7) (nL := 3) (ret := (some .boolean)) (by decide +kernel) rfl rfl (Nat.le_of_ble_eq_true rfl) ?_
  intro p e s m args below meth c A Q H locs ls ha hAe hQ hx hb hml hr hts hown hlk hP hK hD hS hA hG hl
  have hh : Hd Γ p s m args c cX7_isAssignment RX7 3 wsX7_isAssignment A := ⟨⟨hx, hb, hml, hown, hts⟩, hK, hA, hG⟩
  have hl : lv_has ls 3 [(0, .ref (a b))] := hl
  refine lv_aload_n hx hb dX7_isAssignment_0 rfl (lv_at hl 0 rfl) ?_
  refine lv_aload_n hx hb dX7_isAssignment_1 rfl (lv_at hl 0 rfl) ?_
  obtain ⟨u_2, eu_2⟩ : ∃ z : Int32, z = aNmSpot (mText μ) (mLen μ) (mSpot μ) := ⟨_, rfl⟩
  have hM_2 : Ci Γ l yX7_named wsX7_named rm_X7_named [.ref (a b)] (modW Γ a b μ) (aNamed (mText μ) (mLen μ) (mSpot μ)) (modW Γ a b ((mNow μ), (mAside μ), (mKept μ), (mKm μ), (mPar μ), (mParA μ), (mBef μ), (mUm μ), (mLow μ), (mHigh μ), (mNames μ), (mLen μ), (mText μ), (mPath μ), (mIdeal μ), u_2, (mWhich μ), (mNum μ))) := by rw [eu_2]; exact c_X7_named Γ l a b μ hnm hL hsp
  refine ca_Via hh hl.1 hM_2 (cwV 0 hts gX7_isAssignment_X7_named rfl rfl rfl (by decide +kernel) ⟨(Nat.le_of_ble_eq_true rfl), (Nat.le_of_ble_eq_true rfl)⟩) (As := []) (rest := [.ref (a b)]) rfl dX7_isAssignment_2 rfl (Nat.le_of_ble_eq_true rfl) hP hD hS (q0 := 0) (ci := 7) rfl rfl rfl (wf := modW Γ a b ((mNow μ), (mAside μ), (mKept μ), (mKm μ), (mPar μ), (mParA μ), (mBef μ), (mUm μ), (mLow μ), (mHigh μ), (mNames μ), (mLen μ), (mText μ), (mPath μ), (mIdeal μ), u_2, (mWhich μ), (mNum μ))) rfl ⟨Nat.zero_le _, Nat.zero_le _⟩ (fun H locs hP hD hS => ?_)
  refine va_put (D := gD Γ) (cl := vwCl) (tys := gTy Γ) (ci := 7) (v := .int (aNamed (mText μ) (mLen μ) (mSpot μ))) (ty := tyX7 16) (C := RX7) (T := TX7) (N := 18) hx hb hts iX7_isAssignment_7 tyX7 tyX7_ok nmX7 hown hK hP hD hS 0 rfl rfl 16 (Nat.le_of_ble_eq_true rfl) (hts (.fieldLink RX7 108 "DeadTimeLoopModel" "which" "I") (List.mem_of_getElem? (i := 1) rfl)) (fun _ h9 => h9) rfl (tyX7_ok 16 (Nat.le_of_ble_eq_true rfl)) rfl rfl (Nat.le_of_ble_eq_true rfl) dX7_isAssignment_5 (fun H locs hP hD hS => ?_)
  have hP : va_P (gD Γ) vwCl (modW Γ a b ((mNow μ), (mAside μ), (mKept μ), (mKm μ), (mPar μ), (mParA μ), (mBef μ), (mUm μ), (mLow μ), (mHigh μ), (mNames μ), (mLen μ), (mText μ), (mPath μ), (mIdeal μ), u_2, (aNamed (mText μ) (mLen μ) (mSpot μ)), (mNum μ))) H := hP
  have hD : va_D A (modW Γ a b ((mNow μ), (mAside μ), (mKept μ), (mKm μ), (mPar μ), (mParA μ), (mBef μ), (mUm μ), (mLow μ), (mHigh μ), (mNames μ), (mLen μ), (mText μ), (mPath μ), (mIdeal μ), u_2, (aNamed (mText μ) (mLen μ) (mSpot μ)), (mNum μ))) := hD
  refine lv_aload_n hx hb dX7_isAssignment_8 rfl (lv_at hl 0 rfl) ?_
  refine va_get (D := gD Γ) (cl := vwCl) (tys := gTy Γ) (ci := 7) (v := .int (aNamed (mText μ) (mLen μ) (mSpot μ))) (C := RX7) (T := TX7) (N := 18) hx hb hts iX7_isAssignment_7 hown hK hP 0 rfl rfl 16 (Nat.le_of_ble_eq_true rfl) (hts (.fieldLink RX7 108 "DeadTimeLoopModel" "which" "I") (List.mem_of_getElem? (i := 1) rfl)) (fun _ h9 => h9) rfl dX7_isAssignment_9 ?_
  refine lv_if_ge (tgt := 17) hx hb dX7_isAssignment_12 (by decide) (fun c_12 => ?_) (fun c_12 => ?_)
  · -- yes
    have hne := aNamed_pos c_12
    have ht := target_in hne
    have eW : aNamed (mText μ) (mLen μ) (mSpot μ) = (fTarget (mText μ) (mLen μ) (mSpot μ)) := if_neg hne
    have eP : u_2 = fPos0 (mSpot μ) (fTarget (mText μ) (mLen μ) (mSpot μ)) := by rw [eu_2, aNmSpot, if_neg hne, fPos0, Int32.add_assoc]
    obtain ⟨S, hSp, eS⟩ := hsp
    have eU : ∃ P : Nat, P ≤ S + 9 ∧ u_2 = nI P := by obtain ⟨k, hk, q1, q2, -⟩ := pos_of (show ¬ fTarget (mText μ) (mLen μ) (nI S) = -1 from by rw [← eS]; exact hne); rw [← eS] at q1 q2; exact ⟨S + vLen k + 1, by have := vLen_le hk; omega, by rw [eP, q2]⟩
    refine lv_aload_n hx hb dX7_isAssignment_17 rfl (lv_at hl 0 rfl) ?_
    refine lv_aload_n hx hb dX7_isAssignment_18 rfl (lv_at hl 0 rfl) ?_
    refine va_get (D := gD Γ) (cl := vwCl) (tys := gTy Γ) (ci := 7) (v := .int u_2) (C := RX7) (T := TX7) (N := 18) hx hb hts iX7_isAssignment_7 hown hK hP 0 rfl rfl 15 (Nat.le_of_ble_eq_true rfl) (hts (.fieldLink RX7 98 "DeadTimeLoopModel" "spot" "I") (List.mem_of_getElem? (i := 2) rfl)) (fun _ h9 => h9) rfl dX7_isAssignment_19 ?_
    refine ca_Via hh hl.1 (c_X7_charAt Γ l a b ((mNow μ), (mAside μ), (mKept μ), (mKm μ), (mPar μ), (mParA μ), (mBef μ), (mUm μ), (mLow μ), (mHigh μ), (mNames μ), (mLen μ), (mText μ), (mPath μ), (mIdeal μ), u_2, (aNamed (mText μ) (mLen μ) (mSpot μ)), (mNum μ)) u_2 (by obtain ⟨P, q1, q2⟩ := eU; rw [q2]; exact nI_pos (by omega)) hL) (cwV 1 hts gX7_isAssignment_X7_charAt rfl rfl rfl (by decide +kernel) ⟨(Nat.le_of_ble_eq_true rfl), (Nat.le_of_ble_eq_true rfl)⟩) (As := [.int u_2]) (rest := []) rfl dX7_isAssignment_22 rfl (Nat.le_of_ble_eq_true rfl) hP hD hS (q0 := 0) (ci := 7) rfl rfl rfl (wf := modW Γ a b ((mNow μ), (mAside μ), (mKept μ), (mKm μ), (mPar μ), (mParA μ), (mBef μ), (mUm μ), (mLow μ), (mHigh μ), (mNames μ), (mLen μ), (mText μ), (mPath μ), (mIdeal μ), u_2, (aNamed (mText μ) (mLen μ) (mSpot μ)), (mNum μ))) rfl ⟨Nat.zero_le _, Nat.zero_le _⟩ (fun H locs hP hD hS => ?_)
    refine lv_bipush (v := 45) hx hb dX7_isAssignment_25 (by decide) ?_
    refine lv_icmp_ne (tgt := 34) hx hb dX7_isAssignment_27 (by decide) (fun c_27 => ?_) (fun c_27 => ?_)
    · -- yes
      refine lv_iconst (v := 0) hx hb dX7_isAssignment_34 (by decide) ?_
      refine lv_istore_n (lv' := [(1, .int 0), (0, .ref (a b))]) hx hb dX7_isAssignment_35 rfl hl (by decide) rfl (fun ls hl => ?_)
      refine lv_aload_n hx hb dX7_isAssignment_36 rfl (lv_at hl 1 rfl) ?_
      refine lv_dup hx hb dX7_isAssignment_37 rfl ?_
      refine va_get (D := gD Γ) (cl := vwCl) (tys := gTy Γ) (ci := 7) (v := .int u_2) (C := RX7) (T := TX7) (N := 18) hx hb hts iX7_isAssignment_7 hown hK hP 0 rfl rfl 15 (Nat.le_of_ble_eq_true rfl) (hts (.fieldLink RX7 98 "DeadTimeLoopModel" "spot" "I") (List.mem_of_getElem? (i := 2) rfl)) (fun _ h9 => h9) rfl dX7_isAssignment_38 ?_
      refine lv_iload_n hx hb dX7_isAssignment_41 rfl (lv_at hl 0 rfl) ?_
      refine lv_if_eq (tgt := 49) hx hb dX7_isAssignment_42 (by decide) (fun _ => ?_) (fun c => (c (by decide)).elim)
      refine lv_iconst (v := 0) hx hb dX7_isAssignment_49 (by decide) ?_
      refine lv_iadd hx hb dX7_isAssignment_50 ?_
      refine va_put (D := gD Γ) (cl := vwCl) (tys := gTy Γ) (ci := 7) (v := .int (u_2 + 0)) (ty := tyX7 15) (C := RX7) (T := TX7) (N := 18) hx hb hts iX7_isAssignment_7 tyX7 tyX7_ok nmX7 hown hK hP hD hS 0 rfl rfl 15 (Nat.le_of_ble_eq_true rfl) (hts (.fieldLink RX7 98 "DeadTimeLoopModel" "spot" "I") (List.mem_of_getElem? (i := 2) rfl)) (fun _ h9 => h9) rfl (tyX7_ok 15 (Nat.le_of_ble_eq_true rfl)) rfl rfl (Nat.le_of_ble_eq_true rfl) dX7_isAssignment_51 (fun H locs hP hD hS => ?_)
      have hP : va_P (gD Γ) vwCl (modW Γ a b ((mNow μ), (mAside μ), (mKept μ), (mKm μ), (mPar μ), (mParA μ), (mBef μ), (mUm μ), (mLow μ), (mHigh μ), (mNames μ), (mLen μ), (mText μ), (mPath μ), (mIdeal μ), (u_2 + 0), (aNamed (mText μ) (mLen μ) (mSpot μ)), (mNum μ))) H := hP
      have hD : va_D A (modW Γ a b ((mNow μ), (mAside μ), (mKept μ), (mKm μ), (mPar μ), (mParA μ), (mBef μ), (mUm μ), (mLow μ), (mHigh μ), (mNames μ), (mLen μ), (mText μ), (mPath μ), (mIdeal μ), (u_2 + 0), (aNamed (mText μ) (mLen μ) (mSpot μ)), (mNum μ))) := hD
      refine lv_iconst (v := 0) hx hb dX7_isAssignment_54 (by decide) ?_
      refine lv_istore_n (lv' := [(2, .int 0), (1, .int 0), (0, .ref (a b))]) hx hb dX7_isAssignment_55 rfl hl (by decide) rfl (fun ls hl => ?_)
      refine lv_aload_n hx hb dX7_isAssignment_56 rfl (lv_at hl 2 rfl) ?_
      refine lv_iconst (v := 0) hx hb dX7_isAssignment_57 (by decide) ?_
      refine va_put (D := gD Γ) (cl := vwCl) (tys := gTy Γ) (ci := 7) (v := .int 0) (ty := tyX7 17) (C := RX7) (T := TX7) (N := 18) hx hb hts iX7_isAssignment_7 tyX7 tyX7_ok nmX7 hown hK hP hD hS 0 rfl rfl 17 (Nat.le_of_ble_eq_true rfl) (hts (.fieldLink RX7 111 "DeadTimeLoopModel" "number" "I") (List.mem_of_getElem? (i := 3) rfl)) (fun _ h9 => h9) rfl (tyX7_ok 17 (Nat.le_of_ble_eq_true rfl)) rfl rfl (Nat.le_of_ble_eq_true rfl) dX7_isAssignment_58 (fun H locs hP hD hS => ?_)
      have hP : va_P (gD Γ) vwCl (modW Γ a b ((mNow μ), (mAside μ), (mKept μ), (mKm μ), (mPar μ), (mParA μ), (mBef μ), (mUm μ), (mLow μ), (mHigh μ), (mNames μ), (mLen μ), (mText μ), (mPath μ), (mIdeal μ), (u_2 + 0), (aNamed (mText μ) (mLen μ) (mSpot μ)), 0)) H := hP
      have hD : va_D A (modW Γ a b ((mNow μ), (mAside μ), (mKept μ), (mKm μ), (mPar μ), (mParA μ), (mBef μ), (mUm μ), (mLow μ), (mHigh μ), (mNames μ), (mLen μ), (mText μ), (mPath μ), (mIdeal μ), (u_2 + 0), (aNamed (mText μ) (mLen μ) (mSpot μ)), 0)) := hD
      have hJ_61 : ∀ n : Nat, ∀ (d : Nat) (y : Int32) (num : Int32) (pos : Int32), (y = nI d) → (d ≤ 8) → (9 ≤ d + n) → (∃ P : Nat, P ≤ S + 20 + d ∧ pos = nI P) → (mDgN (mText μ) (mLen μ) n d num pos = mDgN (mText μ) (mLen μ) 9 0 0 (u_2 + 0)) → (mDgN (mText μ) (mLen μ) 9 0 0 (u_2 + 0) = mDgN (mText μ) (mLen μ) 9 0 0 (u_2 + 0)) → ∀ (H : Heap) (locs : List Loc) (ls : Array Slot), va_P (gD Γ) vwCl (modW Γ a b ((mNow μ), (mAside μ), (mKept μ), (mKm μ), (mPar μ), (mParA μ), (mBef μ), (mUm μ), (mLow μ), (mHigh μ), (mNames μ), (mLen μ), (mText μ), (mPath μ), (mIdeal μ), pos, (aNamed (mText μ) (mLen μ) (mSpot μ)), num)) H → va_D A (modW Γ a b ((mNow μ), (mAside μ), (mKept μ), (mKm μ), (mPar μ), (mParA μ), (mBef μ), (mUm μ), (mLow μ), (mHigh μ), (mNames μ), (mLen μ), (mText μ), (mPath μ), (mIdeal μ), pos, (aNamed (mText μ) (mLen μ) (mSpot μ)), num)) → va_S A s.heap H locs → lv_has ls 3 [(0, .ref (a b)), (1, .int 0), (2, .int y)] → W p l e rm_X7_isAssignment s m args below meth c H locs 0 0 Q (F0 m 61 ls []) := by
        intro n
        induction n with
        | zero =>
          intro d y num pos ed hd hn hp hg hg0
          omega
        | succ n ih =>
          intro d y num pos ed hd hn hp hg hg0 H locs ls hP hD hS hl
          refine lv_aload_n hx hb dX7_isAssignment_61 rfl (lv_at hl 0 rfl) ?_
          refine lv_aload_n hx hb dX7_isAssignment_62 rfl (lv_at hl 0 rfl) ?_
          refine va_get (D := gD Γ) (cl := vwCl) (tys := gTy Γ) (ci := 7) (v := .int pos) (C := RX7) (T := TX7) (N := 18) hx hb hts iX7_isAssignment_7 hown hK hP 0 rfl rfl 15 (Nat.le_of_ble_eq_true rfl) (hts (.fieldLink RX7 98 "DeadTimeLoopModel" "spot" "I") (List.mem_of_getElem? (i := 2) rfl)) (fun _ h9 => h9) rfl dX7_isAssignment_63 ?_
          refine ca_Via hh hl.1 (c_X7_charAt Γ l a b ((mNow μ), (mAside μ), (mKept μ), (mKm μ), (mPar μ), (mParA μ), (mBef μ), (mUm μ), (mLow μ), (mHigh μ), (mNames μ), (mLen μ), (mText μ), (mPath μ), (mIdeal μ), pos, (aNamed (mText μ) (mLen μ) (mSpot μ)), num) pos (by obtain ⟨P, q1, q2⟩ := hp; rw [q2]; exact nI_pos (by omega)) hL) (cwV 1 hts gX7_isAssignment_X7_charAt rfl rfl rfl (by decide +kernel) ⟨(Nat.le_of_ble_eq_true rfl), (Nat.le_of_ble_eq_true rfl)⟩) (As := [.int pos]) (rest := []) rfl dX7_isAssignment_66 rfl (Nat.le_of_ble_eq_true rfl) hP hD hS (q0 := 0) (ci := 7) rfl rfl rfl (wf := modW Γ a b ((mNow μ), (mAside μ), (mKept μ), (mKm μ), (mPar μ), (mParA μ), (mBef μ), (mUm μ), (mLow μ), (mHigh μ), (mNames μ), (mLen μ), (mText μ), (mPath μ), (mIdeal μ), pos, (aNamed (mText μ) (mLen μ) (mSpot μ)), num)) rfl ⟨Nat.zero_le _, Nat.zero_le _⟩ (fun H locs hP hD hS => ?_)
          refine lv_i2l (v := (fChr (mText μ) (mLen μ) pos).toInt64) hx hb dX7_isAssignment_69 rfl ?_
          refine lv_ldc2 hx hb hown (hts (.constantLong RX7 114 (48)) (List.mem_of_getElem? (i := 4) rfl)) dX7_isAssignment_70 ?_
          refine lv_ldc2 hx hb hown (hts (.constantLong RX7 116 (57)) (List.mem_of_getElem? (i := 5) rfl)) dX7_isAssignment_73 ?_
          refine ca_Si hh hl.1 (c_X7_in Γ l ((fChr (mText μ) (mLen μ) pos).toInt64) 48 57) (va_cwS 3 hts gX7_isAssignment_X7_in rfl rfl rfl (by decide +kernel) ⟨(Nat.le_of_ble_eq_true rfl), (Nat.le_of_ble_eq_true rfl)⟩) (As := [.long ((fChr (mText μ) (mLen μ) pos).toInt64), .long 48, .long 57]) (rest := []) rfl dX7_isAssignment_76 rfl (Nat.le_of_ble_eq_true rfl) hP hD hS ⟨Nat.zero_le _, Nat.zero_le _⟩ (fun H locs hP hS => ?_)
          refine lv_if_eq (tgt := 127) hx hb dX7_isAssignment_79 (by decide) (fun c_79 => ?_) (fun c_79 => ?_)
          · -- yes
            have k_79 : fDig (mText μ) (mLen μ) pos = 0 := by rw [fDig, ← dig_eq]; exact c_79
            have hDg : mDgN (mText μ) (mLen μ) 9 0 0 (fPos1 (fPos0 (mSpot μ) (fTarget (mText μ) (mLen μ) (mSpot μ))) 0) = (d, num, pos) := by rw [fPos1_0, ← eP, ← Int32.add_zero u_2]; first | (rw [← hg0, ← hg, mDgN_s, if_pos k_79]) | (rw [← hg0, ← hg, mDgN_s, if_neg k_79, if_pos (by rw [← ed]; exact c_85)])
            obtain ⟨hE1, hE2, hE3⟩ := as_end (lo := mLow μ) (hi := mHigh μ) (m := mNum μ) hne (fNeg_0 (show ¬ fChr (mText μ) (mLen μ) (fPos0 (mSpot μ) (fTarget (mText μ) (mLen μ) (mSpot μ))) = 45 from by rw [← eP]; exact c_27)) hDg ed
            have hSg : fSgn 0 num = num := fSgn_0 num
            refine lv_aload_n hx hb dX7_isAssignment_127 rfl (lv_at hl 0 rfl) ?_
            refine lv_iload_n hx hb dX7_isAssignment_128 rfl (lv_at hl 1 rfl) ?_
            refine lv_if_eq (tgt := 140) hx hb dX7_isAssignment_129 (by decide) (fun _ => ?_) (fun c => (c (by decide)).elim)
            refine lv_aload_n hx hb dX7_isAssignment_140 rfl (lv_at hl 0 rfl) ?_
            refine va_get (D := gD Γ) (cl := vwCl) (tys := gTy Γ) (ci := 7) (v := .int num) (C := RX7) (T := TX7) (N := 18) hx hb hts iX7_isAssignment_7 hown hK hP 0 rfl rfl 17 (Nat.le_of_ble_eq_true rfl) (hts (.fieldLink RX7 111 "DeadTimeLoopModel" "number" "I") (List.mem_of_getElem? (i := 3) rfl)) (fun _ h9 => h9) rfl dX7_isAssignment_141 ?_
            refine va_put (D := gD Γ) (cl := vwCl) (tys := gTy Γ) (ci := 7) (v := .int num) (ty := tyX7 17) (C := RX7) (T := TX7) (N := 18) hx hb hts iX7_isAssignment_7 tyX7 tyX7_ok nmX7 hown hK hP hD hS 0 rfl rfl 17 (Nat.le_of_ble_eq_true rfl) (hts (.fieldLink RX7 111 "DeadTimeLoopModel" "number" "I") (List.mem_of_getElem? (i := 3) rfl)) (fun _ h9 => h9) rfl (tyX7_ok 17 (Nat.le_of_ble_eq_true rfl)) rfl rfl (Nat.le_of_ble_eq_true rfl) dX7_isAssignment_144 (fun H locs hP hD hS => ?_)
            have hP : va_P (gD Γ) vwCl (modW Γ a b ((mNow μ), (mAside μ), (mKept μ), (mKm μ), (mPar μ), (mParA μ), (mBef μ), (mUm μ), (mLow μ), (mHigh μ), (mNames μ), (mLen μ), (mText μ), (mPath μ), (mIdeal μ), pos, (aNamed (mText μ) (mLen μ) (mSpot μ)), num)) H := hP
            have hD : va_D A (modW Γ a b ((mNow μ), (mAside μ), (mKept μ), (mKm μ), (mPar μ), (mParA μ), (mBef μ), (mUm μ), (mLow μ), (mHigh μ), (mNames μ), (mLen μ), (mText μ), (mPath μ), (mIdeal μ), pos, (aNamed (mText μ) (mLen μ) (mSpot μ)), num)) := hD
            refine lv_aload_n hx hb dX7_isAssignment_147 rfl (lv_at hl 0 rfl) ?_
            refine lv_dup hx hb dX7_isAssignment_148 rfl ?_
            refine va_get (D := gD Γ) (cl := vwCl) (tys := gTy Γ) (ci := 7) (v := .int pos) (C := RX7) (T := TX7) (N := 18) hx hb hts iX7_isAssignment_7 hown hK hP 0 rfl rfl 15 (Nat.le_of_ble_eq_true rfl) (hts (.fieldLink RX7 98 "DeadTimeLoopModel" "spot" "I") (List.mem_of_getElem? (i := 2) rfl)) (fun _ h9 => h9) rfl dX7_isAssignment_149 ?_
            refine lv_iconst (v := 1) hx hb dX7_isAssignment_152 (by decide) ?_
            refine lv_iadd hx hb dX7_isAssignment_153 ?_
            refine va_put (D := gD Γ) (cl := vwCl) (tys := gTy Γ) (ci := 7) (v := .int (pos + 1)) (ty := tyX7 15) (C := RX7) (T := TX7) (N := 18) hx hb hts iX7_isAssignment_7 tyX7 tyX7_ok nmX7 hown hK hP hD hS 0 rfl rfl 15 (Nat.le_of_ble_eq_true rfl) (hts (.fieldLink RX7 98 "DeadTimeLoopModel" "spot" "I") (List.mem_of_getElem? (i := 2) rfl)) (fun _ h9 => h9) rfl (tyX7_ok 15 (Nat.le_of_ble_eq_true rfl)) rfl rfl (Nat.le_of_ble_eq_true rfl) dX7_isAssignment_154 (fun H locs hP hD hS => ?_)
            have hP : va_P (gD Γ) vwCl (modW Γ a b ((mNow μ), (mAside μ), (mKept μ), (mKm μ), (mPar μ), (mParA μ), (mBef μ), (mUm μ), (mLow μ), (mHigh μ), (mNames μ), (mLen μ), (mText μ), (mPath μ), (mIdeal μ), (pos + 1), (aNamed (mText μ) (mLen μ) (mSpot μ)), num)) H := hP
            have hD : va_D A (modW Γ a b ((mNow μ), (mAside μ), (mKept μ), (mKm μ), (mPar μ), (mParA μ), (mBef μ), (mUm μ), (mLow μ), (mHigh μ), (mNames μ), (mLen μ), (mText μ), (mPath μ), (mIdeal μ), (pos + 1), (aNamed (mText μ) (mLen μ) (mSpot μ)), num)) := hD
            refine lv_iload_n hx hb dX7_isAssignment_157 rfl (lv_at hl 2 rfl) ?_
            refine lv_i2l (v := y.toInt64) hx hb dX7_isAssignment_158 rfl ?_
            refine lv_lconst (v := 1) hx hb dX7_isAssignment_159 (by decide) ?_
            refine lv_ldc2 hx hb hown (hts (.constantLong RX7 118 (7)) (List.mem_of_getElem? (i := 6) rfl)) dX7_isAssignment_160 ?_
            refine ca_Si hh hl.1 (c_X7_in Γ l (y.toInt64) 1 7) (va_cwS 3 hts gX7_isAssignment_X7_in rfl rfl rfl (by decide +kernel) ⟨(Nat.le_of_ble_eq_true rfl), (Nat.le_of_ble_eq_true rfl)⟩) (As := [.long (y.toInt64), .long 1, .long 7]) (rest := []) rfl dX7_isAssignment_163 rfl (Nat.le_of_ble_eq_true rfl) hP hD hS ⟨Nat.zero_le _, Nat.zero_le _⟩ (fun H locs hP hS => ?_)
            refine lv_if_eq (tgt := 219) hx hb dX7_isAssignment_166 (by decide) (fun c_166 => ?_) (fun c_166 => ?_)
            · -- yes
              refine lv_iconst (v := 0) hx hb dX7_isAssignment_219 (by decide) ?_
              exact re_z hQ ha hx hb hr hlk hAe hP hS dX7_isAssignment_220 rfl (by rw [hE1, aRes, hSg, ← eW]; first | rw [if_pos c_166] | rw [if_neg c_166, if_neg c_181] | rw [if_neg c_166, if_pos c_181, if_pos c_212] | rw [if_neg c_166, if_pos c_181, if_neg c_212]) (by rw [hE2, hE3, hSg]; rfl)
            · -- no
              refine lv_aload_n hx hb dX7_isAssignment_169 rfl (lv_at hl 0 rfl) ?_
              refine lv_aload_n hx hb dX7_isAssignment_170 rfl (lv_at hl 0 rfl) ?_
              refine va_get (D := gD Γ) (cl := vwCl) (tys := gTy Γ) (ci := 7) (v := .int (pos + 1)) (C := RX7) (T := TX7) (N := 18) hx hb hts iX7_isAssignment_7 hown hK hP 0 rfl rfl 15 (Nat.le_of_ble_eq_true rfl) (hts (.fieldLink RX7 98 "DeadTimeLoopModel" "spot" "I") (List.mem_of_getElem? (i := 2) rfl)) (fun _ h9 => h9) rfl dX7_isAssignment_171 ?_
              refine lv_iconst (v := 1) hx hb dX7_isAssignment_174 (by decide) ?_
              refine lv_isub hx hb dX7_isAssignment_175 ?_
              refine ca_Via hh hl.1 (c_X7_charAt Γ l a b ((mNow μ), (mAside μ), (mKept μ), (mKm μ), (mPar μ), (mParA μ), (mBef μ), (mUm μ), (mLow μ), (mHigh μ), (mNames μ), (mLen μ), (mText μ), (mPath μ), (mIdeal μ), (pos + 1), (aNamed (mText μ) (mLen μ) (mSpot μ)), num) ((pos + 1) - 1) (by rw [Int32.add_sub_cancel]; obtain ⟨P, q1, q2⟩ := hp; rw [q2]; exact nI_pos (by omega)) hL) (cwV 1 hts gX7_isAssignment_X7_charAt rfl rfl rfl (by decide +kernel) ⟨(Nat.le_of_ble_eq_true rfl), (Nat.le_of_ble_eq_true rfl)⟩) (As := [.int ((pos + 1) - 1)]) (rest := []) rfl dX7_isAssignment_176 rfl (Nat.le_of_ble_eq_true rfl) hP hD hS (q0 := 0) (ci := 7) rfl rfl rfl (wf := modW Γ a b ((mNow μ), (mAside μ), (mKept μ), (mKm μ), (mPar μ), (mParA μ), (mBef μ), (mUm μ), (mLow μ), (mHigh μ), (mNames μ), (mLen μ), (mText μ), (mPath μ), (mIdeal μ), (pos + 1), (aNamed (mText μ) (mLen μ) (mSpot μ)), num)) rfl ⟨Nat.zero_le _, Nat.zero_le _⟩ (fun H locs hP hD hS => ?_)
              refine lv_bipush (v := 59) hx hb dX7_isAssignment_179 (by decide) ?_
              refine lv_icmp_ne (tgt := 219) hx hb dX7_isAssignment_181 (by decide) (fun c_181 => ?_) (fun c_181 => ?_)
              · -- yes
                refine lv_iconst (v := 0) hx hb dX7_isAssignment_219 (by decide) ?_
                exact re_z hQ ha hx hb hr hlk hAe hP hS dX7_isAssignment_220 rfl (by rw [hE1, aRes, hSg, ← eW]; first | rw [if_pos c_166] | rw [if_neg c_166, if_neg c_181] | rw [if_neg c_166, if_pos c_181, if_pos c_212] | rw [if_neg c_166, if_pos c_181, if_neg c_212]) (by rw [hE2, hE3, hSg]; rfl)
              · -- no
                refine lv_aload_n hx hb dX7_isAssignment_184 rfl (lv_at hl 0 rfl) ?_
                refine va_get (D := gD Γ) (cl := vwCl) (tys := gTy Γ) (ci := 7) (v := .int num) (C := RX7) (T := TX7) (N := 18) hx hb hts iX7_isAssignment_7 hown hK hP 0 rfl rfl 17 (Nat.le_of_ble_eq_true rfl) (hts (.fieldLink RX7 111 "DeadTimeLoopModel" "number" "I") (List.mem_of_getElem? (i := 3) rfl)) (fun _ h9 => h9) rfl dX7_isAssignment_185 ?_
                refine lv_i2l (v := num.toInt64) hx hb dX7_isAssignment_188 rfl ?_
                refine lv_aload_n hx hb dX7_isAssignment_189 rfl (lv_at hl 0 rfl) ?_
                refine va_get (D := gD Γ) (cl := vwCl) (tys := gTy Γ) (ci := 7) (v := .ref (a (b + 7))) (C := RX7) (T := TX7) (N := 18) hx hb hts iX7_isAssignment_7 hown hK hP 0 rfl rfl 8 (Nat.le_of_ble_eq_true rfl) (hts (.fieldLink RX7 29 "DeadTimeLoopModel" "low" "[I") (List.mem_of_getElem? (i := 7) rfl)) (fun _ h9 => h9) rfl dX7_isAssignment_190 ?_
                refine lv_aload_n hx hb dX7_isAssignment_193 rfl (lv_at hl 0 rfl) ?_
                refine va_get (D := gD Γ) (cl := vwCl) (tys := gTy Γ) (ci := 7) (v := .int (aNamed (mText μ) (mLen μ) (mSpot μ))) (C := RX7) (T := TX7) (N := 18) hx hb hts iX7_isAssignment_7 hown hK hP 0 rfl rfl 16 (Nat.le_of_ble_eq_true rfl) (hts (.fieldLink RX7 108 "DeadTimeLoopModel" "which" "I") (List.mem_of_getElem? (i := 1) rfl)) (fun _ h9 => h9) rfl dX7_isAssignment_194 ?_
                refine ka_iald (D := gD Γ) (cl := vwCl) (tys := gTy Γ) hx hb hK hP 7 0 rfl rfl ((aNamed (mText μ) (mLen μ) (mSpot μ)).toNatClampNeg) (nI_of_in (by rw [eW]; exact ht) (by decide)) (in_lt (by rw [eW]; exact ht)) (by decide) (v := ((mLow μ) ((aNamed (mText μ) (mLen μ) (mSpot μ)).toNatClampNeg))) rfl dX7_isAssignment_197 ?_
                refine lv_i2l (v := ((mLow μ) ((aNamed (mText μ) (mLen μ) (mSpot μ)).toNatClampNeg)).toInt64) hx hb dX7_isAssignment_198 rfl ?_
                refine lv_aload_n hx hb dX7_isAssignment_199 rfl (lv_at hl 0 rfl) ?_
                refine va_get (D := gD Γ) (cl := vwCl) (tys := gTy Γ) (ci := 7) (v := .ref (a (b + 8))) (C := RX7) (T := TX7) (N := 18) hx hb hts iX7_isAssignment_7 hown hK hP 0 rfl rfl 9 (Nat.le_of_ble_eq_true rfl) (hts (.fieldLink RX7 32 "DeadTimeLoopModel" "high" "[I") (List.mem_of_getElem? (i := 8) rfl)) (fun _ h9 => h9) rfl dX7_isAssignment_200 ?_
                refine lv_aload_n hx hb dX7_isAssignment_203 rfl (lv_at hl 0 rfl) ?_
                refine va_get (D := gD Γ) (cl := vwCl) (tys := gTy Γ) (ci := 7) (v := .int (aNamed (mText μ) (mLen μ) (mSpot μ))) (C := RX7) (T := TX7) (N := 18) hx hb hts iX7_isAssignment_7 hown hK hP 0 rfl rfl 16 (Nat.le_of_ble_eq_true rfl) (hts (.fieldLink RX7 108 "DeadTimeLoopModel" "which" "I") (List.mem_of_getElem? (i := 1) rfl)) (fun _ h9 => h9) rfl dX7_isAssignment_204 ?_
                refine ka_iald (D := gD Γ) (cl := vwCl) (tys := gTy Γ) hx hb hK hP 8 0 rfl rfl ((aNamed (mText μ) (mLen μ) (mSpot μ)).toNatClampNeg) (nI_of_in (by rw [eW]; exact ht) (by decide)) (in_lt (by rw [eW]; exact ht)) (by decide) (v := ((mHigh μ) ((aNamed (mText μ) (mLen μ) (mSpot μ)).toNatClampNeg))) rfl dX7_isAssignment_207 ?_
                refine lv_i2l (v := ((mHigh μ) ((aNamed (mText μ) (mLen μ) (mSpot μ)).toNatClampNeg)).toInt64) hx hb dX7_isAssignment_208 rfl ?_
                refine ca_Si hh hl.1 (c_X7_in Γ l (num.toInt64) (((mLow μ) ((aNamed (mText μ) (mLen μ) (mSpot μ)).toNatClampNeg)).toInt64) (((mHigh μ) ((aNamed (mText μ) (mLen μ) (mSpot μ)).toNatClampNeg)).toInt64)) (va_cwS 3 hts gX7_isAssignment_X7_in rfl rfl rfl (by decide +kernel) ⟨(Nat.le_of_ble_eq_true rfl), (Nat.le_of_ble_eq_true rfl)⟩) (As := [.long (num.toInt64), .long (((mLow μ) ((aNamed (mText μ) (mLen μ) (mSpot μ)).toNatClampNeg)).toInt64), .long (((mHigh μ) ((aNamed (mText μ) (mLen μ) (mSpot μ)).toNatClampNeg)).toInt64)]) (rest := []) rfl dX7_isAssignment_209 rfl (Nat.le_of_ble_eq_true rfl) hP hD hS ⟨Nat.zero_le _, Nat.zero_le _⟩ (fun H locs hP hS => ?_)
                refine lv_if_eq (tgt := 219) hx hb dX7_isAssignment_212 (by decide) (fun c_212 => ?_) (fun c_212 => ?_)
                · -- yes
                  refine lv_iconst (v := 0) hx hb dX7_isAssignment_219 (by decide) ?_
                  exact re_z hQ ha hx hb hr hlk hAe hP hS dX7_isAssignment_220 rfl (by rw [hE1, aRes, hSg, ← eW]; first | rw [if_pos c_166] | rw [if_neg c_166, if_neg c_181] | rw [if_neg c_166, if_pos c_181, if_pos c_212] | rw [if_neg c_166, if_pos c_181, if_neg c_212]) (by rw [hE2, hE3, hSg]; rfl)
                · -- no
                  refine lv_iconst (v := 1) hx hb dX7_isAssignment_215 (by decide) ?_
                  refine lv_goto (tgt := 220) hx hb dX7_isAssignment_216 (by decide) ?_
                  exact re_z hQ ha hx hb hr hlk hAe hP hS dX7_isAssignment_220 rfl (by rw [hE1, aRes, hSg, ← eW]; first | rw [if_pos c_166] | rw [if_neg c_166, if_neg c_181] | rw [if_neg c_166, if_pos c_181, if_pos c_212] | rw [if_neg c_166, if_pos c_181, if_neg c_212]) (by rw [hE2, hE3, hSg]; rfl)
          · -- no
            have k_79 : ¬ fDig (mText μ) (mLen μ) pos = 0 := by rw [fDig, ← dig_eq]; exact c_79
            refine lv_iload_n hx hb dX7_isAssignment_82 rfl (lv_at hl 2 rfl) ?_
            refine lv_bipush (v := 8) hx hb dX7_isAssignment_83 (by decide) ?_
            refine lv_icmp_ge (tgt := 127) hx hb dX7_isAssignment_85 (by decide) (fun c_85 => ?_) (fun c_85 => ?_)
            · -- yes
              have hDg : mDgN (mText μ) (mLen μ) 9 0 0 (fPos1 (fPos0 (mSpot μ) (fTarget (mText μ) (mLen μ) (mSpot μ))) 0) = (d, num, pos) := by rw [fPos1_0, ← eP, ← Int32.add_zero u_2]; first | (rw [← hg0, ← hg, mDgN_s, if_pos k_79]) | (rw [← hg0, ← hg, mDgN_s, if_neg k_79, if_pos (by rw [← ed]; exact c_85)])
              obtain ⟨hE1, hE2, hE3⟩ := as_end (lo := mLow μ) (hi := mHigh μ) (m := mNum μ) hne (fNeg_0 (show ¬ fChr (mText μ) (mLen μ) (fPos0 (mSpot μ) (fTarget (mText μ) (mLen μ) (mSpot μ))) = 45 from by rw [← eP]; exact c_27)) hDg ed
              have hSg : fSgn 0 num = num := fSgn_0 num
              refine lv_aload_n hx hb dX7_isAssignment_127 rfl (lv_at hl 0 rfl) ?_
              refine lv_iload_n hx hb dX7_isAssignment_128 rfl (lv_at hl 1 rfl) ?_
              refine lv_if_eq (tgt := 140) hx hb dX7_isAssignment_129 (by decide) (fun _ => ?_) (fun c => (c (by decide)).elim)
              refine lv_aload_n hx hb dX7_isAssignment_140 rfl (lv_at hl 0 rfl) ?_
              refine va_get (D := gD Γ) (cl := vwCl) (tys := gTy Γ) (ci := 7) (v := .int num) (C := RX7) (T := TX7) (N := 18) hx hb hts iX7_isAssignment_7 hown hK hP 0 rfl rfl 17 (Nat.le_of_ble_eq_true rfl) (hts (.fieldLink RX7 111 "DeadTimeLoopModel" "number" "I") (List.mem_of_getElem? (i := 3) rfl)) (fun _ h9 => h9) rfl dX7_isAssignment_141 ?_
              refine va_put (D := gD Γ) (cl := vwCl) (tys := gTy Γ) (ci := 7) (v := .int num) (ty := tyX7 17) (C := RX7) (T := TX7) (N := 18) hx hb hts iX7_isAssignment_7 tyX7 tyX7_ok nmX7 hown hK hP hD hS 0 rfl rfl 17 (Nat.le_of_ble_eq_true rfl) (hts (.fieldLink RX7 111 "DeadTimeLoopModel" "number" "I") (List.mem_of_getElem? (i := 3) rfl)) (fun _ h9 => h9) rfl (tyX7_ok 17 (Nat.le_of_ble_eq_true rfl)) rfl rfl (Nat.le_of_ble_eq_true rfl) dX7_isAssignment_144 (fun H locs hP hD hS => ?_)
              have hP : va_P (gD Γ) vwCl (modW Γ a b ((mNow μ), (mAside μ), (mKept μ), (mKm μ), (mPar μ), (mParA μ), (mBef μ), (mUm μ), (mLow μ), (mHigh μ), (mNames μ), (mLen μ), (mText μ), (mPath μ), (mIdeal μ), pos, (aNamed (mText μ) (mLen μ) (mSpot μ)), num)) H := hP
              have hD : va_D A (modW Γ a b ((mNow μ), (mAside μ), (mKept μ), (mKm μ), (mPar μ), (mParA μ), (mBef μ), (mUm μ), (mLow μ), (mHigh μ), (mNames μ), (mLen μ), (mText μ), (mPath μ), (mIdeal μ), pos, (aNamed (mText μ) (mLen μ) (mSpot μ)), num)) := hD
              refine lv_aload_n hx hb dX7_isAssignment_147 rfl (lv_at hl 0 rfl) ?_
              refine lv_dup hx hb dX7_isAssignment_148 rfl ?_
              refine va_get (D := gD Γ) (cl := vwCl) (tys := gTy Γ) (ci := 7) (v := .int pos) (C := RX7) (T := TX7) (N := 18) hx hb hts iX7_isAssignment_7 hown hK hP 0 rfl rfl 15 (Nat.le_of_ble_eq_true rfl) (hts (.fieldLink RX7 98 "DeadTimeLoopModel" "spot" "I") (List.mem_of_getElem? (i := 2) rfl)) (fun _ h9 => h9) rfl dX7_isAssignment_149 ?_
              refine lv_iconst (v := 1) hx hb dX7_isAssignment_152 (by decide) ?_
              refine lv_iadd hx hb dX7_isAssignment_153 ?_
              refine va_put (D := gD Γ) (cl := vwCl) (tys := gTy Γ) (ci := 7) (v := .int (pos + 1)) (ty := tyX7 15) (C := RX7) (T := TX7) (N := 18) hx hb hts iX7_isAssignment_7 tyX7 tyX7_ok nmX7 hown hK hP hD hS 0 rfl rfl 15 (Nat.le_of_ble_eq_true rfl) (hts (.fieldLink RX7 98 "DeadTimeLoopModel" "spot" "I") (List.mem_of_getElem? (i := 2) rfl)) (fun _ h9 => h9) rfl (tyX7_ok 15 (Nat.le_of_ble_eq_true rfl)) rfl rfl (Nat.le_of_ble_eq_true rfl) dX7_isAssignment_154 (fun H locs hP hD hS => ?_)
              have hP : va_P (gD Γ) vwCl (modW Γ a b ((mNow μ), (mAside μ), (mKept μ), (mKm μ), (mPar μ), (mParA μ), (mBef μ), (mUm μ), (mLow μ), (mHigh μ), (mNames μ), (mLen μ), (mText μ), (mPath μ), (mIdeal μ), (pos + 1), (aNamed (mText μ) (mLen μ) (mSpot μ)), num)) H := hP
              have hD : va_D A (modW Γ a b ((mNow μ), (mAside μ), (mKept μ), (mKm μ), (mPar μ), (mParA μ), (mBef μ), (mUm μ), (mLow μ), (mHigh μ), (mNames μ), (mLen μ), (mText μ), (mPath μ), (mIdeal μ), (pos + 1), (aNamed (mText μ) (mLen μ) (mSpot μ)), num)) := hD
              refine lv_iload_n hx hb dX7_isAssignment_157 rfl (lv_at hl 2 rfl) ?_
              refine lv_i2l (v := y.toInt64) hx hb dX7_isAssignment_158 rfl ?_
              refine lv_lconst (v := 1) hx hb dX7_isAssignment_159 (by decide) ?_
              refine lv_ldc2 hx hb hown (hts (.constantLong RX7 118 (7)) (List.mem_of_getElem? (i := 6) rfl)) dX7_isAssignment_160 ?_
              refine ca_Si hh hl.1 (c_X7_in Γ l (y.toInt64) 1 7) (va_cwS 3 hts gX7_isAssignment_X7_in rfl rfl rfl (by decide +kernel) ⟨(Nat.le_of_ble_eq_true rfl), (Nat.le_of_ble_eq_true rfl)⟩) (As := [.long (y.toInt64), .long 1, .long 7]) (rest := []) rfl dX7_isAssignment_163 rfl (Nat.le_of_ble_eq_true rfl) hP hD hS ⟨Nat.zero_le _, Nat.zero_le _⟩ (fun H locs hP hS => ?_)
              refine lv_if_eq (tgt := 219) hx hb dX7_isAssignment_166 (by decide) (fun c_166 => ?_) (fun c_166 => ?_)
              · -- yes
                refine lv_iconst (v := 0) hx hb dX7_isAssignment_219 (by decide) ?_
                exact re_z hQ ha hx hb hr hlk hAe hP hS dX7_isAssignment_220 rfl (by rw [hE1, aRes, hSg, ← eW]; first | rw [if_pos c_166] | rw [if_neg c_166, if_neg c_181] | rw [if_neg c_166, if_pos c_181, if_pos c_212] | rw [if_neg c_166, if_pos c_181, if_neg c_212]) (by rw [hE2, hE3, hSg]; rfl)
              · -- no
                refine lv_aload_n hx hb dX7_isAssignment_169 rfl (lv_at hl 0 rfl) ?_
                refine lv_aload_n hx hb dX7_isAssignment_170 rfl (lv_at hl 0 rfl) ?_
                refine va_get (D := gD Γ) (cl := vwCl) (tys := gTy Γ) (ci := 7) (v := .int (pos + 1)) (C := RX7) (T := TX7) (N := 18) hx hb hts iX7_isAssignment_7 hown hK hP 0 rfl rfl 15 (Nat.le_of_ble_eq_true rfl) (hts (.fieldLink RX7 98 "DeadTimeLoopModel" "spot" "I") (List.mem_of_getElem? (i := 2) rfl)) (fun _ h9 => h9) rfl dX7_isAssignment_171 ?_
                refine lv_iconst (v := 1) hx hb dX7_isAssignment_174 (by decide) ?_
                refine lv_isub hx hb dX7_isAssignment_175 ?_
                refine ca_Via hh hl.1 (c_X7_charAt Γ l a b ((mNow μ), (mAside μ), (mKept μ), (mKm μ), (mPar μ), (mParA μ), (mBef μ), (mUm μ), (mLow μ), (mHigh μ), (mNames μ), (mLen μ), (mText μ), (mPath μ), (mIdeal μ), (pos + 1), (aNamed (mText μ) (mLen μ) (mSpot μ)), num) ((pos + 1) - 1) (by rw [Int32.add_sub_cancel]; obtain ⟨P, q1, q2⟩ := hp; rw [q2]; exact nI_pos (by omega)) hL) (cwV 1 hts gX7_isAssignment_X7_charAt rfl rfl rfl (by decide +kernel) ⟨(Nat.le_of_ble_eq_true rfl), (Nat.le_of_ble_eq_true rfl)⟩) (As := [.int ((pos + 1) - 1)]) (rest := []) rfl dX7_isAssignment_176 rfl (Nat.le_of_ble_eq_true rfl) hP hD hS (q0 := 0) (ci := 7) rfl rfl rfl (wf := modW Γ a b ((mNow μ), (mAside μ), (mKept μ), (mKm μ), (mPar μ), (mParA μ), (mBef μ), (mUm μ), (mLow μ), (mHigh μ), (mNames μ), (mLen μ), (mText μ), (mPath μ), (mIdeal μ), (pos + 1), (aNamed (mText μ) (mLen μ) (mSpot μ)), num)) rfl ⟨Nat.zero_le _, Nat.zero_le _⟩ (fun H locs hP hD hS => ?_)
                refine lv_bipush (v := 59) hx hb dX7_isAssignment_179 (by decide) ?_
                refine lv_icmp_ne (tgt := 219) hx hb dX7_isAssignment_181 (by decide) (fun c_181 => ?_) (fun c_181 => ?_)
                · -- yes
                  refine lv_iconst (v := 0) hx hb dX7_isAssignment_219 (by decide) ?_
                  exact re_z hQ ha hx hb hr hlk hAe hP hS dX7_isAssignment_220 rfl (by rw [hE1, aRes, hSg, ← eW]; first | rw [if_pos c_166] | rw [if_neg c_166, if_neg c_181] | rw [if_neg c_166, if_pos c_181, if_pos c_212] | rw [if_neg c_166, if_pos c_181, if_neg c_212]) (by rw [hE2, hE3, hSg]; rfl)
                · -- no
                  refine lv_aload_n hx hb dX7_isAssignment_184 rfl (lv_at hl 0 rfl) ?_
                  refine va_get (D := gD Γ) (cl := vwCl) (tys := gTy Γ) (ci := 7) (v := .int num) (C := RX7) (T := TX7) (N := 18) hx hb hts iX7_isAssignment_7 hown hK hP 0 rfl rfl 17 (Nat.le_of_ble_eq_true rfl) (hts (.fieldLink RX7 111 "DeadTimeLoopModel" "number" "I") (List.mem_of_getElem? (i := 3) rfl)) (fun _ h9 => h9) rfl dX7_isAssignment_185 ?_
                  refine lv_i2l (v := num.toInt64) hx hb dX7_isAssignment_188 rfl ?_
                  refine lv_aload_n hx hb dX7_isAssignment_189 rfl (lv_at hl 0 rfl) ?_
                  refine va_get (D := gD Γ) (cl := vwCl) (tys := gTy Γ) (ci := 7) (v := .ref (a (b + 7))) (C := RX7) (T := TX7) (N := 18) hx hb hts iX7_isAssignment_7 hown hK hP 0 rfl rfl 8 (Nat.le_of_ble_eq_true rfl) (hts (.fieldLink RX7 29 "DeadTimeLoopModel" "low" "[I") (List.mem_of_getElem? (i := 7) rfl)) (fun _ h9 => h9) rfl dX7_isAssignment_190 ?_
                  refine lv_aload_n hx hb dX7_isAssignment_193 rfl (lv_at hl 0 rfl) ?_
                  refine va_get (D := gD Γ) (cl := vwCl) (tys := gTy Γ) (ci := 7) (v := .int (aNamed (mText μ) (mLen μ) (mSpot μ))) (C := RX7) (T := TX7) (N := 18) hx hb hts iX7_isAssignment_7 hown hK hP 0 rfl rfl 16 (Nat.le_of_ble_eq_true rfl) (hts (.fieldLink RX7 108 "DeadTimeLoopModel" "which" "I") (List.mem_of_getElem? (i := 1) rfl)) (fun _ h9 => h9) rfl dX7_isAssignment_194 ?_
                  refine ka_iald (D := gD Γ) (cl := vwCl) (tys := gTy Γ) hx hb hK hP 7 0 rfl rfl ((aNamed (mText μ) (mLen μ) (mSpot μ)).toNatClampNeg) (nI_of_in (by rw [eW]; exact ht) (by decide)) (in_lt (by rw [eW]; exact ht)) (by decide) (v := ((mLow μ) ((aNamed (mText μ) (mLen μ) (mSpot μ)).toNatClampNeg))) rfl dX7_isAssignment_197 ?_
                  refine lv_i2l (v := ((mLow μ) ((aNamed (mText μ) (mLen μ) (mSpot μ)).toNatClampNeg)).toInt64) hx hb dX7_isAssignment_198 rfl ?_
                  refine lv_aload_n hx hb dX7_isAssignment_199 rfl (lv_at hl 0 rfl) ?_
                  refine va_get (D := gD Γ) (cl := vwCl) (tys := gTy Γ) (ci := 7) (v := .ref (a (b + 8))) (C := RX7) (T := TX7) (N := 18) hx hb hts iX7_isAssignment_7 hown hK hP 0 rfl rfl 9 (Nat.le_of_ble_eq_true rfl) (hts (.fieldLink RX7 32 "DeadTimeLoopModel" "high" "[I") (List.mem_of_getElem? (i := 8) rfl)) (fun _ h9 => h9) rfl dX7_isAssignment_200 ?_
                  refine lv_aload_n hx hb dX7_isAssignment_203 rfl (lv_at hl 0 rfl) ?_
                  refine va_get (D := gD Γ) (cl := vwCl) (tys := gTy Γ) (ci := 7) (v := .int (aNamed (mText μ) (mLen μ) (mSpot μ))) (C := RX7) (T := TX7) (N := 18) hx hb hts iX7_isAssignment_7 hown hK hP 0 rfl rfl 16 (Nat.le_of_ble_eq_true rfl) (hts (.fieldLink RX7 108 "DeadTimeLoopModel" "which" "I") (List.mem_of_getElem? (i := 1) rfl)) (fun _ h9 => h9) rfl dX7_isAssignment_204 ?_
                  refine ka_iald (D := gD Γ) (cl := vwCl) (tys := gTy Γ) hx hb hK hP 8 0 rfl rfl ((aNamed (mText μ) (mLen μ) (mSpot μ)).toNatClampNeg) (nI_of_in (by rw [eW]; exact ht) (by decide)) (in_lt (by rw [eW]; exact ht)) (by decide) (v := ((mHigh μ) ((aNamed (mText μ) (mLen μ) (mSpot μ)).toNatClampNeg))) rfl dX7_isAssignment_207 ?_
                  refine lv_i2l (v := ((mHigh μ) ((aNamed (mText μ) (mLen μ) (mSpot μ)).toNatClampNeg)).toInt64) hx hb dX7_isAssignment_208 rfl ?_
                  refine ca_Si hh hl.1 (c_X7_in Γ l (num.toInt64) (((mLow μ) ((aNamed (mText μ) (mLen μ) (mSpot μ)).toNatClampNeg)).toInt64) (((mHigh μ) ((aNamed (mText μ) (mLen μ) (mSpot μ)).toNatClampNeg)).toInt64)) (va_cwS 3 hts gX7_isAssignment_X7_in rfl rfl rfl (by decide +kernel) ⟨(Nat.le_of_ble_eq_true rfl), (Nat.le_of_ble_eq_true rfl)⟩) (As := [.long (num.toInt64), .long (((mLow μ) ((aNamed (mText μ) (mLen μ) (mSpot μ)).toNatClampNeg)).toInt64), .long (((mHigh μ) ((aNamed (mText μ) (mLen μ) (mSpot μ)).toNatClampNeg)).toInt64)]) (rest := []) rfl dX7_isAssignment_209 rfl (Nat.le_of_ble_eq_true rfl) hP hD hS ⟨Nat.zero_le _, Nat.zero_le _⟩ (fun H locs hP hS => ?_)
                  refine lv_if_eq (tgt := 219) hx hb dX7_isAssignment_212 (by decide) (fun c_212 => ?_) (fun c_212 => ?_)
                  · -- yes
                    refine lv_iconst (v := 0) hx hb dX7_isAssignment_219 (by decide) ?_
                    exact re_z hQ ha hx hb hr hlk hAe hP hS dX7_isAssignment_220 rfl (by rw [hE1, aRes, hSg, ← eW]; first | rw [if_pos c_166] | rw [if_neg c_166, if_neg c_181] | rw [if_neg c_166, if_pos c_181, if_pos c_212] | rw [if_neg c_166, if_pos c_181, if_neg c_212]) (by rw [hE2, hE3, hSg]; rfl)
                  · -- no
                    refine lv_iconst (v := 1) hx hb dX7_isAssignment_215 (by decide) ?_
                    refine lv_goto (tgt := 220) hx hb dX7_isAssignment_216 (by decide) ?_
                    exact re_z hQ ha hx hb hr hlk hAe hP hS dX7_isAssignment_220 rfl (by rw [hE1, aRes, hSg, ← eW]; first | rw [if_pos c_166] | rw [if_neg c_166, if_neg c_181] | rw [if_neg c_166, if_pos c_181, if_pos c_212] | rw [if_neg c_166, if_pos c_181, if_neg c_212]) (by rw [hE2, hE3, hSg]; rfl)
            · -- no
              refine lv_aload_n hx hb dX7_isAssignment_88 rfl (lv_at hl 0 rfl) ?_
              refine lv_bipush (v := 10) hx hb dX7_isAssignment_89 (by decide) ?_
              refine lv_aload_n hx hb dX7_isAssignment_91 rfl (lv_at hl 0 rfl) ?_
              refine va_get (D := gD Γ) (cl := vwCl) (tys := gTy Γ) (ci := 7) (v := .int num) (C := RX7) (T := TX7) (N := 18) hx hb hts iX7_isAssignment_7 hown hK hP 0 rfl rfl 17 (Nat.le_of_ble_eq_true rfl) (hts (.fieldLink RX7 111 "DeadTimeLoopModel" "number" "I") (List.mem_of_getElem? (i := 3) rfl)) (fun _ h9 => h9) rfl dX7_isAssignment_92 ?_
              refine lv_imul hx hb dX7_isAssignment_95 ?_
              refine lv_aload_n hx hb dX7_isAssignment_96 rfl (lv_at hl 0 rfl) ?_
              refine lv_aload_n hx hb dX7_isAssignment_97 rfl (lv_at hl 0 rfl) ?_
              refine va_get (D := gD Γ) (cl := vwCl) (tys := gTy Γ) (ci := 7) (v := .int pos) (C := RX7) (T := TX7) (N := 18) hx hb hts iX7_isAssignment_7 hown hK hP 0 rfl rfl 15 (Nat.le_of_ble_eq_true rfl) (hts (.fieldLink RX7 98 "DeadTimeLoopModel" "spot" "I") (List.mem_of_getElem? (i := 2) rfl)) (fun _ h9 => h9) rfl dX7_isAssignment_98 ?_
              refine ca_Via hh hl.1 (c_X7_charAt Γ l a b ((mNow μ), (mAside μ), (mKept μ), (mKm μ), (mPar μ), (mParA μ), (mBef μ), (mUm μ), (mLow μ), (mHigh μ), (mNames μ), (mLen μ), (mText μ), (mPath μ), (mIdeal μ), pos, (aNamed (mText μ) (mLen μ) (mSpot μ)), num) pos (by obtain ⟨P, q1, q2⟩ := hp; rw [q2]; exact nI_pos (by omega)) hL) (cwV 1 hts gX7_isAssignment_X7_charAt rfl rfl rfl (by decide +kernel) ⟨(Nat.le_of_ble_eq_true rfl), (Nat.le_of_ble_eq_true rfl)⟩) (As := [.int pos]) (rest := [.int (10 * num), .ref (a b)]) rfl dX7_isAssignment_101 rfl (Nat.le_of_ble_eq_true rfl) hP hD hS (q0 := 0) (ci := 7) rfl rfl rfl (wf := modW Γ a b ((mNow μ), (mAside μ), (mKept μ), (mKm μ), (mPar μ), (mParA μ), (mBef μ), (mUm μ), (mLow μ), (mHigh μ), (mNames μ), (mLen μ), (mText μ), (mPath μ), (mIdeal μ), pos, (aNamed (mText μ) (mLen μ) (mSpot μ)), num)) rfl ⟨Nat.zero_le _, Nat.zero_le _⟩ (fun H locs hP hD hS => ?_)
              refine lv_iadd hx hb dX7_isAssignment_104 ?_
              refine lv_bipush (v := 48) hx hb dX7_isAssignment_105 (by decide) ?_
              refine lv_isub hx hb dX7_isAssignment_107 ?_
              refine va_put (D := gD Γ) (cl := vwCl) (tys := gTy Γ) (ci := 7) (v := .int (((10 * num) + (fChr (mText μ) (mLen μ) pos)) - 48)) (ty := tyX7 17) (C := RX7) (T := TX7) (N := 18) hx hb hts iX7_isAssignment_7 tyX7 tyX7_ok nmX7 hown hK hP hD hS 0 rfl rfl 17 (Nat.le_of_ble_eq_true rfl) (hts (.fieldLink RX7 111 "DeadTimeLoopModel" "number" "I") (List.mem_of_getElem? (i := 3) rfl)) (fun _ h9 => h9) rfl (tyX7_ok 17 (Nat.le_of_ble_eq_true rfl)) rfl rfl (Nat.le_of_ble_eq_true rfl) dX7_isAssignment_108 (fun H locs hP hD hS => ?_)
              have hP : va_P (gD Γ) vwCl (modW Γ a b ((mNow μ), (mAside μ), (mKept μ), (mKm μ), (mPar μ), (mParA μ), (mBef μ), (mUm μ), (mLow μ), (mHigh μ), (mNames μ), (mLen μ), (mText μ), (mPath μ), (mIdeal μ), pos, (aNamed (mText μ) (mLen μ) (mSpot μ)), (((10 * num) + (fChr (mText μ) (mLen μ) pos)) - 48))) H := hP
              have hD : va_D A (modW Γ a b ((mNow μ), (mAside μ), (mKept μ), (mKm μ), (mPar μ), (mParA μ), (mBef μ), (mUm μ), (mLow μ), (mHigh μ), (mNames μ), (mLen μ), (mText μ), (mPath μ), (mIdeal μ), pos, (aNamed (mText μ) (mLen μ) (mSpot μ)), (((10 * num) + (fChr (mText μ) (mLen μ) pos)) - 48))) := hD
              refine lv_aload_n hx hb dX7_isAssignment_111 rfl (lv_at hl 0 rfl) ?_
              refine lv_dup hx hb dX7_isAssignment_112 rfl ?_
              refine va_get (D := gD Γ) (cl := vwCl) (tys := gTy Γ) (ci := 7) (v := .int pos) (C := RX7) (T := TX7) (N := 18) hx hb hts iX7_isAssignment_7 hown hK hP 0 rfl rfl 15 (Nat.le_of_ble_eq_true rfl) (hts (.fieldLink RX7 98 "DeadTimeLoopModel" "spot" "I") (List.mem_of_getElem? (i := 2) rfl)) (fun _ h9 => h9) rfl dX7_isAssignment_113 ?_
              refine lv_iconst (v := 1) hx hb dX7_isAssignment_116 (by decide) ?_
              refine lv_iadd hx hb dX7_isAssignment_117 ?_
              refine va_put (D := gD Γ) (cl := vwCl) (tys := gTy Γ) (ci := 7) (v := .int (pos + 1)) (ty := tyX7 15) (C := RX7) (T := TX7) (N := 18) hx hb hts iX7_isAssignment_7 tyX7 tyX7_ok nmX7 hown hK hP hD hS 0 rfl rfl 15 (Nat.le_of_ble_eq_true rfl) (hts (.fieldLink RX7 98 "DeadTimeLoopModel" "spot" "I") (List.mem_of_getElem? (i := 2) rfl)) (fun _ h9 => h9) rfl (tyX7_ok 15 (Nat.le_of_ble_eq_true rfl)) rfl rfl (Nat.le_of_ble_eq_true rfl) dX7_isAssignment_118 (fun H locs hP hD hS => ?_)
              have hP : va_P (gD Γ) vwCl (modW Γ a b ((mNow μ), (mAside μ), (mKept μ), (mKm μ), (mPar μ), (mParA μ), (mBef μ), (mUm μ), (mLow μ), (mHigh μ), (mNames μ), (mLen μ), (mText μ), (mPath μ), (mIdeal μ), (pos + 1), (aNamed (mText μ) (mLen μ) (mSpot μ)), (((10 * num) + (fChr (mText μ) (mLen μ) pos)) - 48))) H := hP
              have hD : va_D A (modW Γ a b ((mNow μ), (mAside μ), (mKept μ), (mKm μ), (mPar μ), (mParA μ), (mBef μ), (mUm μ), (mLow μ), (mHigh μ), (mNames μ), (mLen μ), (mText μ), (mPath μ), (mIdeal μ), (pos + 1), (aNamed (mText μ) (mLen μ) (mSpot μ)), (((10 * num) + (fChr (mText μ) (mLen μ) pos)) - 48))) := hD
              refine lv_iinc (v := (y + 1)) (lv' := [(2, .int (y + 1)), (0, .ref (a b)), (1, .int 0)]) hx hb dX7_isAssignment_121 hl (k := 2) rfl rfl (by decide) rfl (fun ls hl => ?_)
              refine lv_goto (tgt := 61) hx hb dX7_isAssignment_124 (by decide) ?_
              exact ih (d + 1) _ _ _ (by rw [ed]; exact nI_1 d) (by have := lt_of_nle (i := d) (k := 8) (by rw [← ed]; exact c_85) (by omega) (by decide); omega) (by omega) (by obtain ⟨P, q1, q2⟩ := hp; exact ⟨P + 1, by omega, by rw [q2]; exact nI_1 P⟩) (by rw [← hg, mDgN_s, if_neg k_79, if_neg (by rw [← ed]; exact c_85)]) rfl _ _ _ hP hD hS (lv_sub hl [1, 2, 0] rfl)
      exact hJ_61 9 0 0 _ _ rfl (by omega) (by omega) (by obtain ⟨P, q1, q2⟩ := eU; first | exact ⟨P, by omega, by rw [Int32.add_zero]; exact q2⟩ | exact ⟨P + 1, by omega, by rw [q2]; exact nI_1 P⟩) rfl rfl _ _ _ hP hD hS (lv_sub hl [2, 1, 0] rfl)
    · -- no
      refine lv_iconst (v := 1) hx hb dX7_isAssignment_30 (by decide) ?_
      refine lv_goto (tgt := 35) hx hb dX7_isAssignment_31 (by decide) ?_
      refine lv_istore_n (lv' := [(1, .int 1), (0, .ref (a b))]) hx hb dX7_isAssignment_35 rfl hl (by decide) rfl (fun ls hl => ?_)
      refine lv_aload_n hx hb dX7_isAssignment_36 rfl (lv_at hl 1 rfl) ?_
      refine lv_dup hx hb dX7_isAssignment_37 rfl ?_
      refine va_get (D := gD Γ) (cl := vwCl) (tys := gTy Γ) (ci := 7) (v := .int u_2) (C := RX7) (T := TX7) (N := 18) hx hb hts iX7_isAssignment_7 hown hK hP 0 rfl rfl 15 (Nat.le_of_ble_eq_true rfl) (hts (.fieldLink RX7 98 "DeadTimeLoopModel" "spot" "I") (List.mem_of_getElem? (i := 2) rfl)) (fun _ h9 => h9) rfl dX7_isAssignment_38 ?_
      refine lv_iload_n hx hb dX7_isAssignment_41 rfl (lv_at hl 0 rfl) ?_
      refine lv_if_eq (tgt := 49) hx hb dX7_isAssignment_42 (by decide) (fun c => absurd c (by decide)) (fun _ => ?_)
      refine lv_iconst (v := 1) hx hb dX7_isAssignment_45 (by decide) ?_
      refine lv_goto (tgt := 50) hx hb dX7_isAssignment_46 (by decide) ?_
      refine lv_iadd hx hb dX7_isAssignment_50 ?_
      refine va_put (D := gD Γ) (cl := vwCl) (tys := gTy Γ) (ci := 7) (v := .int (u_2 + 1)) (ty := tyX7 15) (C := RX7) (T := TX7) (N := 18) hx hb hts iX7_isAssignment_7 tyX7 tyX7_ok nmX7 hown hK hP hD hS 0 rfl rfl 15 (Nat.le_of_ble_eq_true rfl) (hts (.fieldLink RX7 98 "DeadTimeLoopModel" "spot" "I") (List.mem_of_getElem? (i := 2) rfl)) (fun _ h9 => h9) rfl (tyX7_ok 15 (Nat.le_of_ble_eq_true rfl)) rfl rfl (Nat.le_of_ble_eq_true rfl) dX7_isAssignment_51 (fun H locs hP hD hS => ?_)
      have hP : va_P (gD Γ) vwCl (modW Γ a b ((mNow μ), (mAside μ), (mKept μ), (mKm μ), (mPar μ), (mParA μ), (mBef μ), (mUm μ), (mLow μ), (mHigh μ), (mNames μ), (mLen μ), (mText μ), (mPath μ), (mIdeal μ), (u_2 + 1), (aNamed (mText μ) (mLen μ) (mSpot μ)), (mNum μ))) H := hP
      have hD : va_D A (modW Γ a b ((mNow μ), (mAside μ), (mKept μ), (mKm μ), (mPar μ), (mParA μ), (mBef μ), (mUm μ), (mLow μ), (mHigh μ), (mNames μ), (mLen μ), (mText μ), (mPath μ), (mIdeal μ), (u_2 + 1), (aNamed (mText μ) (mLen μ) (mSpot μ)), (mNum μ))) := hD
      refine lv_iconst (v := 0) hx hb dX7_isAssignment_54 (by decide) ?_
      refine lv_istore_n (lv' := [(2, .int 0), (1, .int 1), (0, .ref (a b))]) hx hb dX7_isAssignment_55 rfl hl (by decide) rfl (fun ls hl => ?_)
      refine lv_aload_n hx hb dX7_isAssignment_56 rfl (lv_at hl 2 rfl) ?_
      refine lv_iconst (v := 0) hx hb dX7_isAssignment_57 (by decide) ?_
      refine va_put (D := gD Γ) (cl := vwCl) (tys := gTy Γ) (ci := 7) (v := .int 0) (ty := tyX7 17) (C := RX7) (T := TX7) (N := 18) hx hb hts iX7_isAssignment_7 tyX7 tyX7_ok nmX7 hown hK hP hD hS 0 rfl rfl 17 (Nat.le_of_ble_eq_true rfl) (hts (.fieldLink RX7 111 "DeadTimeLoopModel" "number" "I") (List.mem_of_getElem? (i := 3) rfl)) (fun _ h9 => h9) rfl (tyX7_ok 17 (Nat.le_of_ble_eq_true rfl)) rfl rfl (Nat.le_of_ble_eq_true rfl) dX7_isAssignment_58 (fun H locs hP hD hS => ?_)
      have hP : va_P (gD Γ) vwCl (modW Γ a b ((mNow μ), (mAside μ), (mKept μ), (mKm μ), (mPar μ), (mParA μ), (mBef μ), (mUm μ), (mLow μ), (mHigh μ), (mNames μ), (mLen μ), (mText μ), (mPath μ), (mIdeal μ), (u_2 + 1), (aNamed (mText μ) (mLen μ) (mSpot μ)), 0)) H := hP
      have hD : va_D A (modW Γ a b ((mNow μ), (mAside μ), (mKept μ), (mKm μ), (mPar μ), (mParA μ), (mBef μ), (mUm μ), (mLow μ), (mHigh μ), (mNames μ), (mLen μ), (mText μ), (mPath μ), (mIdeal μ), (u_2 + 1), (aNamed (mText μ) (mLen μ) (mSpot μ)), 0)) := hD
      have hJ_61 : ∀ n : Nat, ∀ (d : Nat) (y : Int32) (num : Int32) (pos : Int32), (y = nI d) → (d ≤ 8) → (9 ≤ d + n) → (∃ P : Nat, P ≤ S + 20 + d ∧ pos = nI P) → (mDgN (mText μ) (mLen μ) n d num pos = mDgN (mText μ) (mLen μ) 9 0 0 (u_2 + 1)) → (mDgN (mText μ) (mLen μ) 9 0 0 (u_2 + 1) = mDgN (mText μ) (mLen μ) 9 0 0 (u_2 + 1)) → ∀ (H : Heap) (locs : List Loc) (ls : Array Slot), va_P (gD Γ) vwCl (modW Γ a b ((mNow μ), (mAside μ), (mKept μ), (mKm μ), (mPar μ), (mParA μ), (mBef μ), (mUm μ), (mLow μ), (mHigh μ), (mNames μ), (mLen μ), (mText μ), (mPath μ), (mIdeal μ), pos, (aNamed (mText μ) (mLen μ) (mSpot μ)), num)) H → va_D A (modW Γ a b ((mNow μ), (mAside μ), (mKept μ), (mKm μ), (mPar μ), (mParA μ), (mBef μ), (mUm μ), (mLow μ), (mHigh μ), (mNames μ), (mLen μ), (mText μ), (mPath μ), (mIdeal μ), pos, (aNamed (mText μ) (mLen μ) (mSpot μ)), num)) → va_S A s.heap H locs → lv_has ls 3 [(0, .ref (a b)), (1, .int 1), (2, .int y)] → W p l e rm_X7_isAssignment s m args below meth c H locs 0 0 Q (F0 m 61 ls []) := by
        intro n
        induction n with
        | zero =>
          intro d y num pos ed hd hn hp hg hg0
          omega
        | succ n ih =>
          intro d y num pos ed hd hn hp hg hg0 H locs ls hP hD hS hl
          refine lv_aload_n hx hb dX7_isAssignment_61 rfl (lv_at hl 0 rfl) ?_
          refine lv_aload_n hx hb dX7_isAssignment_62 rfl (lv_at hl 0 rfl) ?_
          refine va_get (D := gD Γ) (cl := vwCl) (tys := gTy Γ) (ci := 7) (v := .int pos) (C := RX7) (T := TX7) (N := 18) hx hb hts iX7_isAssignment_7 hown hK hP 0 rfl rfl 15 (Nat.le_of_ble_eq_true rfl) (hts (.fieldLink RX7 98 "DeadTimeLoopModel" "spot" "I") (List.mem_of_getElem? (i := 2) rfl)) (fun _ h9 => h9) rfl dX7_isAssignment_63 ?_
          refine ca_Via hh hl.1 (c_X7_charAt Γ l a b ((mNow μ), (mAside μ), (mKept μ), (mKm μ), (mPar μ), (mParA μ), (mBef μ), (mUm μ), (mLow μ), (mHigh μ), (mNames μ), (mLen μ), (mText μ), (mPath μ), (mIdeal μ), pos, (aNamed (mText μ) (mLen μ) (mSpot μ)), num) pos (by obtain ⟨P, q1, q2⟩ := hp; rw [q2]; exact nI_pos (by omega)) hL) (cwV 1 hts gX7_isAssignment_X7_charAt rfl rfl rfl (by decide +kernel) ⟨(Nat.le_of_ble_eq_true rfl), (Nat.le_of_ble_eq_true rfl)⟩) (As := [.int pos]) (rest := []) rfl dX7_isAssignment_66 rfl (Nat.le_of_ble_eq_true rfl) hP hD hS (q0 := 0) (ci := 7) rfl rfl rfl (wf := modW Γ a b ((mNow μ), (mAside μ), (mKept μ), (mKm μ), (mPar μ), (mParA μ), (mBef μ), (mUm μ), (mLow μ), (mHigh μ), (mNames μ), (mLen μ), (mText μ), (mPath μ), (mIdeal μ), pos, (aNamed (mText μ) (mLen μ) (mSpot μ)), num)) rfl ⟨Nat.zero_le _, Nat.zero_le _⟩ (fun H locs hP hD hS => ?_)
          refine lv_i2l (v := (fChr (mText μ) (mLen μ) pos).toInt64) hx hb dX7_isAssignment_69 rfl ?_
          refine lv_ldc2 hx hb hown (hts (.constantLong RX7 114 (48)) (List.mem_of_getElem? (i := 4) rfl)) dX7_isAssignment_70 ?_
          refine lv_ldc2 hx hb hown (hts (.constantLong RX7 116 (57)) (List.mem_of_getElem? (i := 5) rfl)) dX7_isAssignment_73 ?_
          refine ca_Si hh hl.1 (c_X7_in Γ l ((fChr (mText μ) (mLen μ) pos).toInt64) 48 57) (va_cwS 3 hts gX7_isAssignment_X7_in rfl rfl rfl (by decide +kernel) ⟨(Nat.le_of_ble_eq_true rfl), (Nat.le_of_ble_eq_true rfl)⟩) (As := [.long ((fChr (mText μ) (mLen μ) pos).toInt64), .long 48, .long 57]) (rest := []) rfl dX7_isAssignment_76 rfl (Nat.le_of_ble_eq_true rfl) hP hD hS ⟨Nat.zero_le _, Nat.zero_le _⟩ (fun H locs hP hS => ?_)
          refine lv_if_eq (tgt := 127) hx hb dX7_isAssignment_79 (by decide) (fun c_79 => ?_) (fun c_79 => ?_)
          · -- yes
            have k_79 : fDig (mText μ) (mLen μ) pos = 0 := by rw [fDig, ← dig_eq]; exact c_79
            have hDg : mDgN (mText μ) (mLen μ) 9 0 0 (fPos1 (fPos0 (mSpot μ) (fTarget (mText μ) (mLen μ) (mSpot μ))) 1) = (d, num, pos) := by rw [fPos1_1, ← eP]; first | (rw [← hg0, ← hg, mDgN_s, if_pos k_79]) | (rw [← hg0, ← hg, mDgN_s, if_neg k_79, if_pos (by rw [← ed]; exact c_85)])
            obtain ⟨hE1, hE2, hE3⟩ := as_end (lo := mLow μ) (hi := mHigh μ) (m := mNum μ) hne (fNeg_1 (show fChr (mText μ) (mLen μ) (fPos0 (mSpot μ) (fTarget (mText μ) (mLen μ) (mSpot μ))) = 45 from by rw [← eP]; exact c_27)) hDg ed
            have hSg : fSgn 1 num = -num := fSgn_1 num
            refine lv_aload_n hx hb dX7_isAssignment_127 rfl (lv_at hl 0 rfl) ?_
            refine lv_iload_n hx hb dX7_isAssignment_128 rfl (lv_at hl 1 rfl) ?_
            refine lv_if_eq (tgt := 140) hx hb dX7_isAssignment_129 (by decide) (fun c => absurd c (by decide)) (fun _ => ?_)
            refine lv_aload_n hx hb dX7_isAssignment_132 rfl (lv_at hl 0 rfl) ?_
            refine va_get (D := gD Γ) (cl := vwCl) (tys := gTy Γ) (ci := 7) (v := .int num) (C := RX7) (T := TX7) (N := 18) hx hb hts iX7_isAssignment_7 hown hK hP 0 rfl rfl 17 (Nat.le_of_ble_eq_true rfl) (hts (.fieldLink RX7 111 "DeadTimeLoopModel" "number" "I") (List.mem_of_getElem? (i := 3) rfl)) (fun _ h9 => h9) rfl dX7_isAssignment_133 ?_
            refine lv_ineg hx hb dX7_isAssignment_136 ?_
            refine lv_goto (tgt := 144) hx hb dX7_isAssignment_137 (by decide) ?_
            refine va_put (D := gD Γ) (cl := vwCl) (tys := gTy Γ) (ci := 7) (v := .int (-num)) (ty := tyX7 17) (C := RX7) (T := TX7) (N := 18) hx hb hts iX7_isAssignment_7 tyX7 tyX7_ok nmX7 hown hK hP hD hS 0 rfl rfl 17 (Nat.le_of_ble_eq_true rfl) (hts (.fieldLink RX7 111 "DeadTimeLoopModel" "number" "I") (List.mem_of_getElem? (i := 3) rfl)) (fun _ h9 => h9) rfl (tyX7_ok 17 (Nat.le_of_ble_eq_true rfl)) rfl rfl (Nat.le_of_ble_eq_true rfl) dX7_isAssignment_144 (fun H locs hP hD hS => ?_)
            have hP : va_P (gD Γ) vwCl (modW Γ a b ((mNow μ), (mAside μ), (mKept μ), (mKm μ), (mPar μ), (mParA μ), (mBef μ), (mUm μ), (mLow μ), (mHigh μ), (mNames μ), (mLen μ), (mText μ), (mPath μ), (mIdeal μ), pos, (aNamed (mText μ) (mLen μ) (mSpot μ)), (-num))) H := hP
            have hD : va_D A (modW Γ a b ((mNow μ), (mAside μ), (mKept μ), (mKm μ), (mPar μ), (mParA μ), (mBef μ), (mUm μ), (mLow μ), (mHigh μ), (mNames μ), (mLen μ), (mText μ), (mPath μ), (mIdeal μ), pos, (aNamed (mText μ) (mLen μ) (mSpot μ)), (-num))) := hD
            refine lv_aload_n hx hb dX7_isAssignment_147 rfl (lv_at hl 0 rfl) ?_
            refine lv_dup hx hb dX7_isAssignment_148 rfl ?_
            refine va_get (D := gD Γ) (cl := vwCl) (tys := gTy Γ) (ci := 7) (v := .int pos) (C := RX7) (T := TX7) (N := 18) hx hb hts iX7_isAssignment_7 hown hK hP 0 rfl rfl 15 (Nat.le_of_ble_eq_true rfl) (hts (.fieldLink RX7 98 "DeadTimeLoopModel" "spot" "I") (List.mem_of_getElem? (i := 2) rfl)) (fun _ h9 => h9) rfl dX7_isAssignment_149 ?_
            refine lv_iconst (v := 1) hx hb dX7_isAssignment_152 (by decide) ?_
            refine lv_iadd hx hb dX7_isAssignment_153 ?_
            refine va_put (D := gD Γ) (cl := vwCl) (tys := gTy Γ) (ci := 7) (v := .int (pos + 1)) (ty := tyX7 15) (C := RX7) (T := TX7) (N := 18) hx hb hts iX7_isAssignment_7 tyX7 tyX7_ok nmX7 hown hK hP hD hS 0 rfl rfl 15 (Nat.le_of_ble_eq_true rfl) (hts (.fieldLink RX7 98 "DeadTimeLoopModel" "spot" "I") (List.mem_of_getElem? (i := 2) rfl)) (fun _ h9 => h9) rfl (tyX7_ok 15 (Nat.le_of_ble_eq_true rfl)) rfl rfl (Nat.le_of_ble_eq_true rfl) dX7_isAssignment_154 (fun H locs hP hD hS => ?_)
            have hP : va_P (gD Γ) vwCl (modW Γ a b ((mNow μ), (mAside μ), (mKept μ), (mKm μ), (mPar μ), (mParA μ), (mBef μ), (mUm μ), (mLow μ), (mHigh μ), (mNames μ), (mLen μ), (mText μ), (mPath μ), (mIdeal μ), (pos + 1), (aNamed (mText μ) (mLen μ) (mSpot μ)), (-num))) H := hP
            have hD : va_D A (modW Γ a b ((mNow μ), (mAside μ), (mKept μ), (mKm μ), (mPar μ), (mParA μ), (mBef μ), (mUm μ), (mLow μ), (mHigh μ), (mNames μ), (mLen μ), (mText μ), (mPath μ), (mIdeal μ), (pos + 1), (aNamed (mText μ) (mLen μ) (mSpot μ)), (-num))) := hD
            refine lv_iload_n hx hb dX7_isAssignment_157 rfl (lv_at hl 2 rfl) ?_
            refine lv_i2l (v := y.toInt64) hx hb dX7_isAssignment_158 rfl ?_
            refine lv_lconst (v := 1) hx hb dX7_isAssignment_159 (by decide) ?_
            refine lv_ldc2 hx hb hown (hts (.constantLong RX7 118 (7)) (List.mem_of_getElem? (i := 6) rfl)) dX7_isAssignment_160 ?_
            refine ca_Si hh hl.1 (c_X7_in Γ l (y.toInt64) 1 7) (va_cwS 3 hts gX7_isAssignment_X7_in rfl rfl rfl (by decide +kernel) ⟨(Nat.le_of_ble_eq_true rfl), (Nat.le_of_ble_eq_true rfl)⟩) (As := [.long (y.toInt64), .long 1, .long 7]) (rest := []) rfl dX7_isAssignment_163 rfl (Nat.le_of_ble_eq_true rfl) hP hD hS ⟨Nat.zero_le _, Nat.zero_le _⟩ (fun H locs hP hS => ?_)
            refine lv_if_eq (tgt := 219) hx hb dX7_isAssignment_166 (by decide) (fun c_166 => ?_) (fun c_166 => ?_)
            · -- yes
              refine lv_iconst (v := 0) hx hb dX7_isAssignment_219 (by decide) ?_
              exact re_z hQ ha hx hb hr hlk hAe hP hS dX7_isAssignment_220 rfl (by rw [hE1, aRes, hSg, ← eW]; first | rw [if_pos c_166] | rw [if_neg c_166, if_neg c_181] | rw [if_neg c_166, if_pos c_181, if_pos c_212] | rw [if_neg c_166, if_pos c_181, if_neg c_212]) (by rw [hE2, hE3, hSg]; rfl)
            · -- no
              refine lv_aload_n hx hb dX7_isAssignment_169 rfl (lv_at hl 0 rfl) ?_
              refine lv_aload_n hx hb dX7_isAssignment_170 rfl (lv_at hl 0 rfl) ?_
              refine va_get (D := gD Γ) (cl := vwCl) (tys := gTy Γ) (ci := 7) (v := .int (pos + 1)) (C := RX7) (T := TX7) (N := 18) hx hb hts iX7_isAssignment_7 hown hK hP 0 rfl rfl 15 (Nat.le_of_ble_eq_true rfl) (hts (.fieldLink RX7 98 "DeadTimeLoopModel" "spot" "I") (List.mem_of_getElem? (i := 2) rfl)) (fun _ h9 => h9) rfl dX7_isAssignment_171 ?_
              refine lv_iconst (v := 1) hx hb dX7_isAssignment_174 (by decide) ?_
              refine lv_isub hx hb dX7_isAssignment_175 ?_
              refine ca_Via hh hl.1 (c_X7_charAt Γ l a b ((mNow μ), (mAside μ), (mKept μ), (mKm μ), (mPar μ), (mParA μ), (mBef μ), (mUm μ), (mLow μ), (mHigh μ), (mNames μ), (mLen μ), (mText μ), (mPath μ), (mIdeal μ), (pos + 1), (aNamed (mText μ) (mLen μ) (mSpot μ)), (-num)) ((pos + 1) - 1) (by rw [Int32.add_sub_cancel]; obtain ⟨P, q1, q2⟩ := hp; rw [q2]; exact nI_pos (by omega)) hL) (cwV 1 hts gX7_isAssignment_X7_charAt rfl rfl rfl (by decide +kernel) ⟨(Nat.le_of_ble_eq_true rfl), (Nat.le_of_ble_eq_true rfl)⟩) (As := [.int ((pos + 1) - 1)]) (rest := []) rfl dX7_isAssignment_176 rfl (Nat.le_of_ble_eq_true rfl) hP hD hS (q0 := 0) (ci := 7) rfl rfl rfl (wf := modW Γ a b ((mNow μ), (mAside μ), (mKept μ), (mKm μ), (mPar μ), (mParA μ), (mBef μ), (mUm μ), (mLow μ), (mHigh μ), (mNames μ), (mLen μ), (mText μ), (mPath μ), (mIdeal μ), (pos + 1), (aNamed (mText μ) (mLen μ) (mSpot μ)), (-num))) rfl ⟨Nat.zero_le _, Nat.zero_le _⟩ (fun H locs hP hD hS => ?_)
              refine lv_bipush (v := 59) hx hb dX7_isAssignment_179 (by decide) ?_
              refine lv_icmp_ne (tgt := 219) hx hb dX7_isAssignment_181 (by decide) (fun c_181 => ?_) (fun c_181 => ?_)
              · -- yes
                refine lv_iconst (v := 0) hx hb dX7_isAssignment_219 (by decide) ?_
                exact re_z hQ ha hx hb hr hlk hAe hP hS dX7_isAssignment_220 rfl (by rw [hE1, aRes, hSg, ← eW]; first | rw [if_pos c_166] | rw [if_neg c_166, if_neg c_181] | rw [if_neg c_166, if_pos c_181, if_pos c_212] | rw [if_neg c_166, if_pos c_181, if_neg c_212]) (by rw [hE2, hE3, hSg]; rfl)
              · -- no
                refine lv_aload_n hx hb dX7_isAssignment_184 rfl (lv_at hl 0 rfl) ?_
                refine va_get (D := gD Γ) (cl := vwCl) (tys := gTy Γ) (ci := 7) (v := .int (-num)) (C := RX7) (T := TX7) (N := 18) hx hb hts iX7_isAssignment_7 hown hK hP 0 rfl rfl 17 (Nat.le_of_ble_eq_true rfl) (hts (.fieldLink RX7 111 "DeadTimeLoopModel" "number" "I") (List.mem_of_getElem? (i := 3) rfl)) (fun _ h9 => h9) rfl dX7_isAssignment_185 ?_
                refine lv_i2l (v := (-num).toInt64) hx hb dX7_isAssignment_188 rfl ?_
                refine lv_aload_n hx hb dX7_isAssignment_189 rfl (lv_at hl 0 rfl) ?_
                refine va_get (D := gD Γ) (cl := vwCl) (tys := gTy Γ) (ci := 7) (v := .ref (a (b + 7))) (C := RX7) (T := TX7) (N := 18) hx hb hts iX7_isAssignment_7 hown hK hP 0 rfl rfl 8 (Nat.le_of_ble_eq_true rfl) (hts (.fieldLink RX7 29 "DeadTimeLoopModel" "low" "[I") (List.mem_of_getElem? (i := 7) rfl)) (fun _ h9 => h9) rfl dX7_isAssignment_190 ?_
                refine lv_aload_n hx hb dX7_isAssignment_193 rfl (lv_at hl 0 rfl) ?_
                refine va_get (D := gD Γ) (cl := vwCl) (tys := gTy Γ) (ci := 7) (v := .int (aNamed (mText μ) (mLen μ) (mSpot μ))) (C := RX7) (T := TX7) (N := 18) hx hb hts iX7_isAssignment_7 hown hK hP 0 rfl rfl 16 (Nat.le_of_ble_eq_true rfl) (hts (.fieldLink RX7 108 "DeadTimeLoopModel" "which" "I") (List.mem_of_getElem? (i := 1) rfl)) (fun _ h9 => h9) rfl dX7_isAssignment_194 ?_
                refine ka_iald (D := gD Γ) (cl := vwCl) (tys := gTy Γ) hx hb hK hP 7 0 rfl rfl ((aNamed (mText μ) (mLen μ) (mSpot μ)).toNatClampNeg) (nI_of_in (by rw [eW]; exact ht) (by decide)) (in_lt (by rw [eW]; exact ht)) (by decide) (v := ((mLow μ) ((aNamed (mText μ) (mLen μ) (mSpot μ)).toNatClampNeg))) rfl dX7_isAssignment_197 ?_
                refine lv_i2l (v := ((mLow μ) ((aNamed (mText μ) (mLen μ) (mSpot μ)).toNatClampNeg)).toInt64) hx hb dX7_isAssignment_198 rfl ?_
                refine lv_aload_n hx hb dX7_isAssignment_199 rfl (lv_at hl 0 rfl) ?_
                refine va_get (D := gD Γ) (cl := vwCl) (tys := gTy Γ) (ci := 7) (v := .ref (a (b + 8))) (C := RX7) (T := TX7) (N := 18) hx hb hts iX7_isAssignment_7 hown hK hP 0 rfl rfl 9 (Nat.le_of_ble_eq_true rfl) (hts (.fieldLink RX7 32 "DeadTimeLoopModel" "high" "[I") (List.mem_of_getElem? (i := 8) rfl)) (fun _ h9 => h9) rfl dX7_isAssignment_200 ?_
                refine lv_aload_n hx hb dX7_isAssignment_203 rfl (lv_at hl 0 rfl) ?_
                refine va_get (D := gD Γ) (cl := vwCl) (tys := gTy Γ) (ci := 7) (v := .int (aNamed (mText μ) (mLen μ) (mSpot μ))) (C := RX7) (T := TX7) (N := 18) hx hb hts iX7_isAssignment_7 hown hK hP 0 rfl rfl 16 (Nat.le_of_ble_eq_true rfl) (hts (.fieldLink RX7 108 "DeadTimeLoopModel" "which" "I") (List.mem_of_getElem? (i := 1) rfl)) (fun _ h9 => h9) rfl dX7_isAssignment_204 ?_
                refine ka_iald (D := gD Γ) (cl := vwCl) (tys := gTy Γ) hx hb hK hP 8 0 rfl rfl ((aNamed (mText μ) (mLen μ) (mSpot μ)).toNatClampNeg) (nI_of_in (by rw [eW]; exact ht) (by decide)) (in_lt (by rw [eW]; exact ht)) (by decide) (v := ((mHigh μ) ((aNamed (mText μ) (mLen μ) (mSpot μ)).toNatClampNeg))) rfl dX7_isAssignment_207 ?_
                refine lv_i2l (v := ((mHigh μ) ((aNamed (mText μ) (mLen μ) (mSpot μ)).toNatClampNeg)).toInt64) hx hb dX7_isAssignment_208 rfl ?_
                refine ca_Si hh hl.1 (c_X7_in Γ l ((-num).toInt64) (((mLow μ) ((aNamed (mText μ) (mLen μ) (mSpot μ)).toNatClampNeg)).toInt64) (((mHigh μ) ((aNamed (mText μ) (mLen μ) (mSpot μ)).toNatClampNeg)).toInt64)) (va_cwS 3 hts gX7_isAssignment_X7_in rfl rfl rfl (by decide +kernel) ⟨(Nat.le_of_ble_eq_true rfl), (Nat.le_of_ble_eq_true rfl)⟩) (As := [.long ((-num).toInt64), .long (((mLow μ) ((aNamed (mText μ) (mLen μ) (mSpot μ)).toNatClampNeg)).toInt64), .long (((mHigh μ) ((aNamed (mText μ) (mLen μ) (mSpot μ)).toNatClampNeg)).toInt64)]) (rest := []) rfl dX7_isAssignment_209 rfl (Nat.le_of_ble_eq_true rfl) hP hD hS ⟨Nat.zero_le _, Nat.zero_le _⟩ (fun H locs hP hS => ?_)
                refine lv_if_eq (tgt := 219) hx hb dX7_isAssignment_212 (by decide) (fun c_212 => ?_) (fun c_212 => ?_)
                · -- yes
                  refine lv_iconst (v := 0) hx hb dX7_isAssignment_219 (by decide) ?_
                  exact re_z hQ ha hx hb hr hlk hAe hP hS dX7_isAssignment_220 rfl (by rw [hE1, aRes, hSg, ← eW]; first | rw [if_pos c_166] | rw [if_neg c_166, if_neg c_181] | rw [if_neg c_166, if_pos c_181, if_pos c_212] | rw [if_neg c_166, if_pos c_181, if_neg c_212]) (by rw [hE2, hE3, hSg]; rfl)
                · -- no
                  refine lv_iconst (v := 1) hx hb dX7_isAssignment_215 (by decide) ?_
                  refine lv_goto (tgt := 220) hx hb dX7_isAssignment_216 (by decide) ?_
                  exact re_z hQ ha hx hb hr hlk hAe hP hS dX7_isAssignment_220 rfl (by rw [hE1, aRes, hSg, ← eW]; first | rw [if_pos c_166] | rw [if_neg c_166, if_neg c_181] | rw [if_neg c_166, if_pos c_181, if_pos c_212] | rw [if_neg c_166, if_pos c_181, if_neg c_212]) (by rw [hE2, hE3, hSg]; rfl)
          · -- no
            have k_79 : ¬ fDig (mText μ) (mLen μ) pos = 0 := by rw [fDig, ← dig_eq]; exact c_79
            refine lv_iload_n hx hb dX7_isAssignment_82 rfl (lv_at hl 2 rfl) ?_
            refine lv_bipush (v := 8) hx hb dX7_isAssignment_83 (by decide) ?_
            refine lv_icmp_ge (tgt := 127) hx hb dX7_isAssignment_85 (by decide) (fun c_85 => ?_) (fun c_85 => ?_)
            · -- yes
              have hDg : mDgN (mText μ) (mLen μ) 9 0 0 (fPos1 (fPos0 (mSpot μ) (fTarget (mText μ) (mLen μ) (mSpot μ))) 1) = (d, num, pos) := by rw [fPos1_1, ← eP]; first | (rw [← hg0, ← hg, mDgN_s, if_pos k_79]) | (rw [← hg0, ← hg, mDgN_s, if_neg k_79, if_pos (by rw [← ed]; exact c_85)])
              obtain ⟨hE1, hE2, hE3⟩ := as_end (lo := mLow μ) (hi := mHigh μ) (m := mNum μ) hne (fNeg_1 (show fChr (mText μ) (mLen μ) (fPos0 (mSpot μ) (fTarget (mText μ) (mLen μ) (mSpot μ))) = 45 from by rw [← eP]; exact c_27)) hDg ed
              have hSg : fSgn 1 num = -num := fSgn_1 num
              refine lv_aload_n hx hb dX7_isAssignment_127 rfl (lv_at hl 0 rfl) ?_
              refine lv_iload_n hx hb dX7_isAssignment_128 rfl (lv_at hl 1 rfl) ?_
              refine lv_if_eq (tgt := 140) hx hb dX7_isAssignment_129 (by decide) (fun c => absurd c (by decide)) (fun _ => ?_)
              refine lv_aload_n hx hb dX7_isAssignment_132 rfl (lv_at hl 0 rfl) ?_
              refine va_get (D := gD Γ) (cl := vwCl) (tys := gTy Γ) (ci := 7) (v := .int num) (C := RX7) (T := TX7) (N := 18) hx hb hts iX7_isAssignment_7 hown hK hP 0 rfl rfl 17 (Nat.le_of_ble_eq_true rfl) (hts (.fieldLink RX7 111 "DeadTimeLoopModel" "number" "I") (List.mem_of_getElem? (i := 3) rfl)) (fun _ h9 => h9) rfl dX7_isAssignment_133 ?_
              refine lv_ineg hx hb dX7_isAssignment_136 ?_
              refine lv_goto (tgt := 144) hx hb dX7_isAssignment_137 (by decide) ?_
              refine va_put (D := gD Γ) (cl := vwCl) (tys := gTy Γ) (ci := 7) (v := .int (-num)) (ty := tyX7 17) (C := RX7) (T := TX7) (N := 18) hx hb hts iX7_isAssignment_7 tyX7 tyX7_ok nmX7 hown hK hP hD hS 0 rfl rfl 17 (Nat.le_of_ble_eq_true rfl) (hts (.fieldLink RX7 111 "DeadTimeLoopModel" "number" "I") (List.mem_of_getElem? (i := 3) rfl)) (fun _ h9 => h9) rfl (tyX7_ok 17 (Nat.le_of_ble_eq_true rfl)) rfl rfl (Nat.le_of_ble_eq_true rfl) dX7_isAssignment_144 (fun H locs hP hD hS => ?_)
              have hP : va_P (gD Γ) vwCl (modW Γ a b ((mNow μ), (mAside μ), (mKept μ), (mKm μ), (mPar μ), (mParA μ), (mBef μ), (mUm μ), (mLow μ), (mHigh μ), (mNames μ), (mLen μ), (mText μ), (mPath μ), (mIdeal μ), pos, (aNamed (mText μ) (mLen μ) (mSpot μ)), (-num))) H := hP
              have hD : va_D A (modW Γ a b ((mNow μ), (mAside μ), (mKept μ), (mKm μ), (mPar μ), (mParA μ), (mBef μ), (mUm μ), (mLow μ), (mHigh μ), (mNames μ), (mLen μ), (mText μ), (mPath μ), (mIdeal μ), pos, (aNamed (mText μ) (mLen μ) (mSpot μ)), (-num))) := hD
              refine lv_aload_n hx hb dX7_isAssignment_147 rfl (lv_at hl 0 rfl) ?_
              refine lv_dup hx hb dX7_isAssignment_148 rfl ?_
              refine va_get (D := gD Γ) (cl := vwCl) (tys := gTy Γ) (ci := 7) (v := .int pos) (C := RX7) (T := TX7) (N := 18) hx hb hts iX7_isAssignment_7 hown hK hP 0 rfl rfl 15 (Nat.le_of_ble_eq_true rfl) (hts (.fieldLink RX7 98 "DeadTimeLoopModel" "spot" "I") (List.mem_of_getElem? (i := 2) rfl)) (fun _ h9 => h9) rfl dX7_isAssignment_149 ?_
              refine lv_iconst (v := 1) hx hb dX7_isAssignment_152 (by decide) ?_
              refine lv_iadd hx hb dX7_isAssignment_153 ?_
              refine va_put (D := gD Γ) (cl := vwCl) (tys := gTy Γ) (ci := 7) (v := .int (pos + 1)) (ty := tyX7 15) (C := RX7) (T := TX7) (N := 18) hx hb hts iX7_isAssignment_7 tyX7 tyX7_ok nmX7 hown hK hP hD hS 0 rfl rfl 15 (Nat.le_of_ble_eq_true rfl) (hts (.fieldLink RX7 98 "DeadTimeLoopModel" "spot" "I") (List.mem_of_getElem? (i := 2) rfl)) (fun _ h9 => h9) rfl (tyX7_ok 15 (Nat.le_of_ble_eq_true rfl)) rfl rfl (Nat.le_of_ble_eq_true rfl) dX7_isAssignment_154 (fun H locs hP hD hS => ?_)
              have hP : va_P (gD Γ) vwCl (modW Γ a b ((mNow μ), (mAside μ), (mKept μ), (mKm μ), (mPar μ), (mParA μ), (mBef μ), (mUm μ), (mLow μ), (mHigh μ), (mNames μ), (mLen μ), (mText μ), (mPath μ), (mIdeal μ), (pos + 1), (aNamed (mText μ) (mLen μ) (mSpot μ)), (-num))) H := hP
              have hD : va_D A (modW Γ a b ((mNow μ), (mAside μ), (mKept μ), (mKm μ), (mPar μ), (mParA μ), (mBef μ), (mUm μ), (mLow μ), (mHigh μ), (mNames μ), (mLen μ), (mText μ), (mPath μ), (mIdeal μ), (pos + 1), (aNamed (mText μ) (mLen μ) (mSpot μ)), (-num))) := hD
              refine lv_iload_n hx hb dX7_isAssignment_157 rfl (lv_at hl 2 rfl) ?_
              refine lv_i2l (v := y.toInt64) hx hb dX7_isAssignment_158 rfl ?_
              refine lv_lconst (v := 1) hx hb dX7_isAssignment_159 (by decide) ?_
              refine lv_ldc2 hx hb hown (hts (.constantLong RX7 118 (7)) (List.mem_of_getElem? (i := 6) rfl)) dX7_isAssignment_160 ?_
              refine ca_Si hh hl.1 (c_X7_in Γ l (y.toInt64) 1 7) (va_cwS 3 hts gX7_isAssignment_X7_in rfl rfl rfl (by decide +kernel) ⟨(Nat.le_of_ble_eq_true rfl), (Nat.le_of_ble_eq_true rfl)⟩) (As := [.long (y.toInt64), .long 1, .long 7]) (rest := []) rfl dX7_isAssignment_163 rfl (Nat.le_of_ble_eq_true rfl) hP hD hS ⟨Nat.zero_le _, Nat.zero_le _⟩ (fun H locs hP hS => ?_)
              refine lv_if_eq (tgt := 219) hx hb dX7_isAssignment_166 (by decide) (fun c_166 => ?_) (fun c_166 => ?_)
              · -- yes
                refine lv_iconst (v := 0) hx hb dX7_isAssignment_219 (by decide) ?_
                exact re_z hQ ha hx hb hr hlk hAe hP hS dX7_isAssignment_220 rfl (by rw [hE1, aRes, hSg, ← eW]; first | rw [if_pos c_166] | rw [if_neg c_166, if_neg c_181] | rw [if_neg c_166, if_pos c_181, if_pos c_212] | rw [if_neg c_166, if_pos c_181, if_neg c_212]) (by rw [hE2, hE3, hSg]; rfl)
              · -- no
                refine lv_aload_n hx hb dX7_isAssignment_169 rfl (lv_at hl 0 rfl) ?_
                refine lv_aload_n hx hb dX7_isAssignment_170 rfl (lv_at hl 0 rfl) ?_
                refine va_get (D := gD Γ) (cl := vwCl) (tys := gTy Γ) (ci := 7) (v := .int (pos + 1)) (C := RX7) (T := TX7) (N := 18) hx hb hts iX7_isAssignment_7 hown hK hP 0 rfl rfl 15 (Nat.le_of_ble_eq_true rfl) (hts (.fieldLink RX7 98 "DeadTimeLoopModel" "spot" "I") (List.mem_of_getElem? (i := 2) rfl)) (fun _ h9 => h9) rfl dX7_isAssignment_171 ?_
                refine lv_iconst (v := 1) hx hb dX7_isAssignment_174 (by decide) ?_
                refine lv_isub hx hb dX7_isAssignment_175 ?_
                refine ca_Via hh hl.1 (c_X7_charAt Γ l a b ((mNow μ), (mAside μ), (mKept μ), (mKm μ), (mPar μ), (mParA μ), (mBef μ), (mUm μ), (mLow μ), (mHigh μ), (mNames μ), (mLen μ), (mText μ), (mPath μ), (mIdeal μ), (pos + 1), (aNamed (mText μ) (mLen μ) (mSpot μ)), (-num)) ((pos + 1) - 1) (by rw [Int32.add_sub_cancel]; obtain ⟨P, q1, q2⟩ := hp; rw [q2]; exact nI_pos (by omega)) hL) (cwV 1 hts gX7_isAssignment_X7_charAt rfl rfl rfl (by decide +kernel) ⟨(Nat.le_of_ble_eq_true rfl), (Nat.le_of_ble_eq_true rfl)⟩) (As := [.int ((pos + 1) - 1)]) (rest := []) rfl dX7_isAssignment_176 rfl (Nat.le_of_ble_eq_true rfl) hP hD hS (q0 := 0) (ci := 7) rfl rfl rfl (wf := modW Γ a b ((mNow μ), (mAside μ), (mKept μ), (mKm μ), (mPar μ), (mParA μ), (mBef μ), (mUm μ), (mLow μ), (mHigh μ), (mNames μ), (mLen μ), (mText μ), (mPath μ), (mIdeal μ), (pos + 1), (aNamed (mText μ) (mLen μ) (mSpot μ)), (-num))) rfl ⟨Nat.zero_le _, Nat.zero_le _⟩ (fun H locs hP hD hS => ?_)
                refine lv_bipush (v := 59) hx hb dX7_isAssignment_179 (by decide) ?_
                refine lv_icmp_ne (tgt := 219) hx hb dX7_isAssignment_181 (by decide) (fun c_181 => ?_) (fun c_181 => ?_)
                · -- yes
                  refine lv_iconst (v := 0) hx hb dX7_isAssignment_219 (by decide) ?_
                  exact re_z hQ ha hx hb hr hlk hAe hP hS dX7_isAssignment_220 rfl (by rw [hE1, aRes, hSg, ← eW]; first | rw [if_pos c_166] | rw [if_neg c_166, if_neg c_181] | rw [if_neg c_166, if_pos c_181, if_pos c_212] | rw [if_neg c_166, if_pos c_181, if_neg c_212]) (by rw [hE2, hE3, hSg]; rfl)
                · -- no
                  refine lv_aload_n hx hb dX7_isAssignment_184 rfl (lv_at hl 0 rfl) ?_
                  refine va_get (D := gD Γ) (cl := vwCl) (tys := gTy Γ) (ci := 7) (v := .int (-num)) (C := RX7) (T := TX7) (N := 18) hx hb hts iX7_isAssignment_7 hown hK hP 0 rfl rfl 17 (Nat.le_of_ble_eq_true rfl) (hts (.fieldLink RX7 111 "DeadTimeLoopModel" "number" "I") (List.mem_of_getElem? (i := 3) rfl)) (fun _ h9 => h9) rfl dX7_isAssignment_185 ?_
                  refine lv_i2l (v := (-num).toInt64) hx hb dX7_isAssignment_188 rfl ?_
                  refine lv_aload_n hx hb dX7_isAssignment_189 rfl (lv_at hl 0 rfl) ?_
                  refine va_get (D := gD Γ) (cl := vwCl) (tys := gTy Γ) (ci := 7) (v := .ref (a (b + 7))) (C := RX7) (T := TX7) (N := 18) hx hb hts iX7_isAssignment_7 hown hK hP 0 rfl rfl 8 (Nat.le_of_ble_eq_true rfl) (hts (.fieldLink RX7 29 "DeadTimeLoopModel" "low" "[I") (List.mem_of_getElem? (i := 7) rfl)) (fun _ h9 => h9) rfl dX7_isAssignment_190 ?_
                  refine lv_aload_n hx hb dX7_isAssignment_193 rfl (lv_at hl 0 rfl) ?_
                  refine va_get (D := gD Γ) (cl := vwCl) (tys := gTy Γ) (ci := 7) (v := .int (aNamed (mText μ) (mLen μ) (mSpot μ))) (C := RX7) (T := TX7) (N := 18) hx hb hts iX7_isAssignment_7 hown hK hP 0 rfl rfl 16 (Nat.le_of_ble_eq_true rfl) (hts (.fieldLink RX7 108 "DeadTimeLoopModel" "which" "I") (List.mem_of_getElem? (i := 1) rfl)) (fun _ h9 => h9) rfl dX7_isAssignment_194 ?_
                  refine ka_iald (D := gD Γ) (cl := vwCl) (tys := gTy Γ) hx hb hK hP 7 0 rfl rfl ((aNamed (mText μ) (mLen μ) (mSpot μ)).toNatClampNeg) (nI_of_in (by rw [eW]; exact ht) (by decide)) (in_lt (by rw [eW]; exact ht)) (by decide) (v := ((mLow μ) ((aNamed (mText μ) (mLen μ) (mSpot μ)).toNatClampNeg))) rfl dX7_isAssignment_197 ?_
                  refine lv_i2l (v := ((mLow μ) ((aNamed (mText μ) (mLen μ) (mSpot μ)).toNatClampNeg)).toInt64) hx hb dX7_isAssignment_198 rfl ?_
                  refine lv_aload_n hx hb dX7_isAssignment_199 rfl (lv_at hl 0 rfl) ?_
                  refine va_get (D := gD Γ) (cl := vwCl) (tys := gTy Γ) (ci := 7) (v := .ref (a (b + 8))) (C := RX7) (T := TX7) (N := 18) hx hb hts iX7_isAssignment_7 hown hK hP 0 rfl rfl 9 (Nat.le_of_ble_eq_true rfl) (hts (.fieldLink RX7 32 "DeadTimeLoopModel" "high" "[I") (List.mem_of_getElem? (i := 8) rfl)) (fun _ h9 => h9) rfl dX7_isAssignment_200 ?_
                  refine lv_aload_n hx hb dX7_isAssignment_203 rfl (lv_at hl 0 rfl) ?_
                  refine va_get (D := gD Γ) (cl := vwCl) (tys := gTy Γ) (ci := 7) (v := .int (aNamed (mText μ) (mLen μ) (mSpot μ))) (C := RX7) (T := TX7) (N := 18) hx hb hts iX7_isAssignment_7 hown hK hP 0 rfl rfl 16 (Nat.le_of_ble_eq_true rfl) (hts (.fieldLink RX7 108 "DeadTimeLoopModel" "which" "I") (List.mem_of_getElem? (i := 1) rfl)) (fun _ h9 => h9) rfl dX7_isAssignment_204 ?_
                  refine ka_iald (D := gD Γ) (cl := vwCl) (tys := gTy Γ) hx hb hK hP 8 0 rfl rfl ((aNamed (mText μ) (mLen μ) (mSpot μ)).toNatClampNeg) (nI_of_in (by rw [eW]; exact ht) (by decide)) (in_lt (by rw [eW]; exact ht)) (by decide) (v := ((mHigh μ) ((aNamed (mText μ) (mLen μ) (mSpot μ)).toNatClampNeg))) rfl dX7_isAssignment_207 ?_
                  refine lv_i2l (v := ((mHigh μ) ((aNamed (mText μ) (mLen μ) (mSpot μ)).toNatClampNeg)).toInt64) hx hb dX7_isAssignment_208 rfl ?_
                  refine ca_Si hh hl.1 (c_X7_in Γ l ((-num).toInt64) (((mLow μ) ((aNamed (mText μ) (mLen μ) (mSpot μ)).toNatClampNeg)).toInt64) (((mHigh μ) ((aNamed (mText μ) (mLen μ) (mSpot μ)).toNatClampNeg)).toInt64)) (va_cwS 3 hts gX7_isAssignment_X7_in rfl rfl rfl (by decide +kernel) ⟨(Nat.le_of_ble_eq_true rfl), (Nat.le_of_ble_eq_true rfl)⟩) (As := [.long ((-num).toInt64), .long (((mLow μ) ((aNamed (mText μ) (mLen μ) (mSpot μ)).toNatClampNeg)).toInt64), .long (((mHigh μ) ((aNamed (mText μ) (mLen μ) (mSpot μ)).toNatClampNeg)).toInt64)]) (rest := []) rfl dX7_isAssignment_209 rfl (Nat.le_of_ble_eq_true rfl) hP hD hS ⟨Nat.zero_le _, Nat.zero_le _⟩ (fun H locs hP hS => ?_)
                  refine lv_if_eq (tgt := 219) hx hb dX7_isAssignment_212 (by decide) (fun c_212 => ?_) (fun c_212 => ?_)
                  · -- yes
                    refine lv_iconst (v := 0) hx hb dX7_isAssignment_219 (by decide) ?_
                    exact re_z hQ ha hx hb hr hlk hAe hP hS dX7_isAssignment_220 rfl (by rw [hE1, aRes, hSg, ← eW]; first | rw [if_pos c_166] | rw [if_neg c_166, if_neg c_181] | rw [if_neg c_166, if_pos c_181, if_pos c_212] | rw [if_neg c_166, if_pos c_181, if_neg c_212]) (by rw [hE2, hE3, hSg]; rfl)
                  · -- no
                    refine lv_iconst (v := 1) hx hb dX7_isAssignment_215 (by decide) ?_
                    refine lv_goto (tgt := 220) hx hb dX7_isAssignment_216 (by decide) ?_
                    exact re_z hQ ha hx hb hr hlk hAe hP hS dX7_isAssignment_220 rfl (by rw [hE1, aRes, hSg, ← eW]; first | rw [if_pos c_166] | rw [if_neg c_166, if_neg c_181] | rw [if_neg c_166, if_pos c_181, if_pos c_212] | rw [if_neg c_166, if_pos c_181, if_neg c_212]) (by rw [hE2, hE3, hSg]; rfl)
            · -- no
              refine lv_aload_n hx hb dX7_isAssignment_88 rfl (lv_at hl 0 rfl) ?_
              refine lv_bipush (v := 10) hx hb dX7_isAssignment_89 (by decide) ?_
              refine lv_aload_n hx hb dX7_isAssignment_91 rfl (lv_at hl 0 rfl) ?_
              refine va_get (D := gD Γ) (cl := vwCl) (tys := gTy Γ) (ci := 7) (v := .int num) (C := RX7) (T := TX7) (N := 18) hx hb hts iX7_isAssignment_7 hown hK hP 0 rfl rfl 17 (Nat.le_of_ble_eq_true rfl) (hts (.fieldLink RX7 111 "DeadTimeLoopModel" "number" "I") (List.mem_of_getElem? (i := 3) rfl)) (fun _ h9 => h9) rfl dX7_isAssignment_92 ?_
              refine lv_imul hx hb dX7_isAssignment_95 ?_
              refine lv_aload_n hx hb dX7_isAssignment_96 rfl (lv_at hl 0 rfl) ?_
              refine lv_aload_n hx hb dX7_isAssignment_97 rfl (lv_at hl 0 rfl) ?_
              refine va_get (D := gD Γ) (cl := vwCl) (tys := gTy Γ) (ci := 7) (v := .int pos) (C := RX7) (T := TX7) (N := 18) hx hb hts iX7_isAssignment_7 hown hK hP 0 rfl rfl 15 (Nat.le_of_ble_eq_true rfl) (hts (.fieldLink RX7 98 "DeadTimeLoopModel" "spot" "I") (List.mem_of_getElem? (i := 2) rfl)) (fun _ h9 => h9) rfl dX7_isAssignment_98 ?_
              refine ca_Via hh hl.1 (c_X7_charAt Γ l a b ((mNow μ), (mAside μ), (mKept μ), (mKm μ), (mPar μ), (mParA μ), (mBef μ), (mUm μ), (mLow μ), (mHigh μ), (mNames μ), (mLen μ), (mText μ), (mPath μ), (mIdeal μ), pos, (aNamed (mText μ) (mLen μ) (mSpot μ)), num) pos (by obtain ⟨P, q1, q2⟩ := hp; rw [q2]; exact nI_pos (by omega)) hL) (cwV 1 hts gX7_isAssignment_X7_charAt rfl rfl rfl (by decide +kernel) ⟨(Nat.le_of_ble_eq_true rfl), (Nat.le_of_ble_eq_true rfl)⟩) (As := [.int pos]) (rest := [.int (10 * num), .ref (a b)]) rfl dX7_isAssignment_101 rfl (Nat.le_of_ble_eq_true rfl) hP hD hS (q0 := 0) (ci := 7) rfl rfl rfl (wf := modW Γ a b ((mNow μ), (mAside μ), (mKept μ), (mKm μ), (mPar μ), (mParA μ), (mBef μ), (mUm μ), (mLow μ), (mHigh μ), (mNames μ), (mLen μ), (mText μ), (mPath μ), (mIdeal μ), pos, (aNamed (mText μ) (mLen μ) (mSpot μ)), num)) rfl ⟨Nat.zero_le _, Nat.zero_le _⟩ (fun H locs hP hD hS => ?_)
              refine lv_iadd hx hb dX7_isAssignment_104 ?_
              refine lv_bipush (v := 48) hx hb dX7_isAssignment_105 (by decide) ?_
              refine lv_isub hx hb dX7_isAssignment_107 ?_
              refine va_put (D := gD Γ) (cl := vwCl) (tys := gTy Γ) (ci := 7) (v := .int (((10 * num) + (fChr (mText μ) (mLen μ) pos)) - 48)) (ty := tyX7 17) (C := RX7) (T := TX7) (N := 18) hx hb hts iX7_isAssignment_7 tyX7 tyX7_ok nmX7 hown hK hP hD hS 0 rfl rfl 17 (Nat.le_of_ble_eq_true rfl) (hts (.fieldLink RX7 111 "DeadTimeLoopModel" "number" "I") (List.mem_of_getElem? (i := 3) rfl)) (fun _ h9 => h9) rfl (tyX7_ok 17 (Nat.le_of_ble_eq_true rfl)) rfl rfl (Nat.le_of_ble_eq_true rfl) dX7_isAssignment_108 (fun H locs hP hD hS => ?_)
              have hP : va_P (gD Γ) vwCl (modW Γ a b ((mNow μ), (mAside μ), (mKept μ), (mKm μ), (mPar μ), (mParA μ), (mBef μ), (mUm μ), (mLow μ), (mHigh μ), (mNames μ), (mLen μ), (mText μ), (mPath μ), (mIdeal μ), pos, (aNamed (mText μ) (mLen μ) (mSpot μ)), (((10 * num) + (fChr (mText μ) (mLen μ) pos)) - 48))) H := hP
              have hD : va_D A (modW Γ a b ((mNow μ), (mAside μ), (mKept μ), (mKm μ), (mPar μ), (mParA μ), (mBef μ), (mUm μ), (mLow μ), (mHigh μ), (mNames μ), (mLen μ), (mText μ), (mPath μ), (mIdeal μ), pos, (aNamed (mText μ) (mLen μ) (mSpot μ)), (((10 * num) + (fChr (mText μ) (mLen μ) pos)) - 48))) := hD
              refine lv_aload_n hx hb dX7_isAssignment_111 rfl (lv_at hl 0 rfl) ?_
              refine lv_dup hx hb dX7_isAssignment_112 rfl ?_
              refine va_get (D := gD Γ) (cl := vwCl) (tys := gTy Γ) (ci := 7) (v := .int pos) (C := RX7) (T := TX7) (N := 18) hx hb hts iX7_isAssignment_7 hown hK hP 0 rfl rfl 15 (Nat.le_of_ble_eq_true rfl) (hts (.fieldLink RX7 98 "DeadTimeLoopModel" "spot" "I") (List.mem_of_getElem? (i := 2) rfl)) (fun _ h9 => h9) rfl dX7_isAssignment_113 ?_
              refine lv_iconst (v := 1) hx hb dX7_isAssignment_116 (by decide) ?_
              refine lv_iadd hx hb dX7_isAssignment_117 ?_
              refine va_put (D := gD Γ) (cl := vwCl) (tys := gTy Γ) (ci := 7) (v := .int (pos + 1)) (ty := tyX7 15) (C := RX7) (T := TX7) (N := 18) hx hb hts iX7_isAssignment_7 tyX7 tyX7_ok nmX7 hown hK hP hD hS 0 rfl rfl 15 (Nat.le_of_ble_eq_true rfl) (hts (.fieldLink RX7 98 "DeadTimeLoopModel" "spot" "I") (List.mem_of_getElem? (i := 2) rfl)) (fun _ h9 => h9) rfl (tyX7_ok 15 (Nat.le_of_ble_eq_true rfl)) rfl rfl (Nat.le_of_ble_eq_true rfl) dX7_isAssignment_118 (fun H locs hP hD hS => ?_)
              have hP : va_P (gD Γ) vwCl (modW Γ a b ((mNow μ), (mAside μ), (mKept μ), (mKm μ), (mPar μ), (mParA μ), (mBef μ), (mUm μ), (mLow μ), (mHigh μ), (mNames μ), (mLen μ), (mText μ), (mPath μ), (mIdeal μ), (pos + 1), (aNamed (mText μ) (mLen μ) (mSpot μ)), (((10 * num) + (fChr (mText μ) (mLen μ) pos)) - 48))) H := hP
              have hD : va_D A (modW Γ a b ((mNow μ), (mAside μ), (mKept μ), (mKm μ), (mPar μ), (mParA μ), (mBef μ), (mUm μ), (mLow μ), (mHigh μ), (mNames μ), (mLen μ), (mText μ), (mPath μ), (mIdeal μ), (pos + 1), (aNamed (mText μ) (mLen μ) (mSpot μ)), (((10 * num) + (fChr (mText μ) (mLen μ) pos)) - 48))) := hD
              refine lv_iinc (v := (y + 1)) (lv' := [(2, .int (y + 1)), (0, .ref (a b)), (1, .int 1)]) hx hb dX7_isAssignment_121 hl (k := 2) rfl rfl (by decide) rfl (fun ls hl => ?_)
              refine lv_goto (tgt := 61) hx hb dX7_isAssignment_124 (by decide) ?_
              exact ih (d + 1) _ _ _ (by rw [ed]; exact nI_1 d) (by have := lt_of_nle (i := d) (k := 8) (by rw [← ed]; exact c_85) (by omega) (by decide); omega) (by omega) (by obtain ⟨P, q1, q2⟩ := hp; exact ⟨P + 1, by omega, by rw [q2]; exact nI_1 P⟩) (by rw [← hg, mDgN_s, if_neg k_79, if_neg (by rw [← ed]; exact c_85)]) rfl _ _ _ hP hD hS (lv_sub hl [1, 2, 0] rfl)
      exact hJ_61 9 0 0 _ _ rfl (by omega) (by omega) (by obtain ⟨P, q1, q2⟩ := eU; first | exact ⟨P, by omega, by rw [Int32.add_zero]; exact q2⟩ | exact ⟨P + 1, by omega, by rw [q2]; exact nI_1 P⟩) rfl rfl _ _ _ hP hD hS (lv_sub hl [2, 1, 0] rfl)
  · -- no
    refine lv_iconst (v := 0) hx hb dX7_isAssignment_15 (by decide) ?_
    exact re_z hQ ha hx hb hr hlk hAe hP hS dX7_isAssignment_16 rfl (by rw [aR, if_pos (aNamed_neg c_12)]) (by rw [eu_2, aNmSpot, aSp, aNm, if_pos (aNamed_neg c_12), if_pos (aNamed_neg c_12), if_pos (aNamed_neg c_12)]; rfl)
