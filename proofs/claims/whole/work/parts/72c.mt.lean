def rm_X7_assignedBy : Room := { frames := 3, cells := 0, slots := 0, locals := 68 }
theorem iX7_assignedBy_7 : ∀ w ∈ u_ws RX7 TX7 18, w ∈ wsX7_assignedBy := fun w h => (List.mem_cons_of_mem _ (List.mem_append_right _ h))
set_option maxHeartbeats 1000000 in
set_option maxRecDepth 100000 in
theorem c_X7_assignedBy (Γ : gT) (l : Launch) (a : Nat → Nat) (b : Nat) (μ : Mst) (idx : Int32) (hnm : nmOk (mNames μ)) (hL : lenOk (mLen μ)) : Ci Γ l yX7_assignedBy wsX7_assignedBy rm_X7_assignedBy [.ref (a b), .int idx] (modW Γ a b μ) ((aBy (mText μ) (mLen μ) (mLow μ) (mHigh μ) idx (mWhich μ) (mNum μ)).1) (modW Γ a b ((mNow μ), (mAside μ), (mKept μ), (mKm μ), (mPar μ), (mParA μ), (mBef μ), (mUm μ), (mLow μ), (mHigh μ), (mNames μ), (mLen μ), (mText μ), (mPath μ), (mIdeal μ), ((aBy (mText μ) (mLen μ) (mLow μ) (mHigh μ) idx (mWhich μ) (mNum μ)).2.1), ((aBy (mText μ) (mLen μ) (mLow μ) (mHigh μ) idx (mWhich μ) (mNum μ)).2.2.1), ((aBy (mText μ) (mLen μ) (mLow μ) (mHigh μ) idx (mWhich μ) (mNum μ)).2.2.2))) := by
  refine Ci.of (cc := cX7_assignedBy) (own := RX7) (nL := 4) (ret := (some .int)) (by decide +kernel) rfl rfl (Nat.le_of_ble_eq_true rfl) ?_
  intro p e s m args below meth c A Q H locs ls ha hAe hQ hx hb hml hr hts hown hlk hP hK hD hS hA hG hl
  have hh : Hd Γ p s m args c cX7_assignedBy RX7 4 wsX7_assignedBy A := ⟨⟨hx, hb, hml, hown, hts⟩, hK, hA, hG⟩
  have hl : lv_has ls 4 [(0, .ref (a b)), (1, .int idx)] := hl
  obtain ⟨L, hL80, eL⟩ := id hL
  refine lv_iconst (v := 0) hx hb dX7_assignedBy_0 (by decide) ?_
  refine lv_istore_n (lv' := [(2, .int 0), (0, .ref (a b)), (1, .int idx)]) hx hb dX7_assignedBy_1 rfl hl (by decide) rfl (fun ls hl => ?_)
  refine lv_iconst (v := 0) hx hb dX7_assignedBy_2 (by decide) ?_
  refine lv_istore_n (lv' := [(3, .int 0), (2, .int 0), (0, .ref (a b)), (1, .int idx)]) hx hb dX7_assignedBy_3 rfl hl (by decide) rfl (fun ls hl => ?_)
  refine lv_aload_n hx hb dX7_assignedBy_4 rfl (lv_at hl 2 rfl) ?_
  refine lv_iconst (v := 0) hx hb dX7_assignedBy_5 (by decide) ?_
  refine va_put (D := gD Γ) (cl := vwCl) (tys := gTy Γ) (ci := 7) (v := .int 0) (ty := tyX7 15) (C := RX7) (T := TX7) (N := 18) hx hb hts iX7_assignedBy_7 tyX7 tyX7_ok nmX7 hown hK hP hD hS 0 rfl rfl 15 (Nat.le_of_ble_eq_true rfl) (hts (.fieldLink RX7 98 "DeadTimeLoopModel" "spot" "I") (List.mem_of_getElem? (i := 1) rfl)) (fun _ h9 => h9) rfl (tyX7_ok 15 (Nat.le_of_ble_eq_true rfl)) rfl rfl (Nat.le_of_ble_eq_true rfl) dX7_assignedBy_6 (fun H locs hP hD hS => ?_)
  have hP : va_P (gD Γ) vwCl (modW Γ a b ((mNow μ), (mAside μ), (mKept μ), (mKm μ), (mPar μ), (mParA μ), (mBef μ), (mUm μ), (mLow μ), (mHigh μ), (mNames μ), (mLen μ), (mText μ), (mPath μ), (mIdeal μ), 0, (mWhich μ), (mNum μ))) H := hP
  have hD : va_D A (modW Γ a b ((mNow μ), (mAside μ), (mKept μ), (mKm μ), (mPar μ), (mParA μ), (mBef μ), (mUm μ), (mLow μ), (mHigh μ), (mNames μ), (mLen μ), (mText μ), (mPath μ), (mIdeal μ), 0, (mWhich μ), (mNum μ))) := hD
  have hJ_9 : ∀ n : Nat, ∀ (S : Nat) (y : Int32) (w1 : Int32) (m1 : Int32) (sn : Int32) (k : Int32), (y = nI S) → (S < 2 ^ 31) → (L - S < n) → (aByN (mText μ) (mLen μ) (mLow μ) (mHigh μ) idx n y w1 m1 sn k = aBy (mText μ) (mLen μ) (mLow μ) (mHigh μ) idx (mWhich μ) (mNum μ)) → ∀ (H : Heap) (locs : List Loc) (ls : Array Slot), va_P (gD Γ) vwCl (modW Γ a b ((mNow μ), (mAside μ), (mKept μ), (mKm μ), (mPar μ), (mParA μ), (mBef μ), (mUm μ), (mLow μ), (mHigh μ), (mNames μ), (mLen μ), (mText μ), (mPath μ), (mIdeal μ), y, w1, m1)) H → va_D A (modW Γ a b ((mNow μ), (mAside μ), (mKept μ), (mKm μ), (mPar μ), (mParA μ), (mBef μ), (mUm μ), (mLow μ), (mHigh μ), (mNames μ), (mLen μ), (mText μ), (mPath μ), (mIdeal μ), y, w1, m1)) → va_S A s.heap H locs → lv_has ls 4 [(0, .ref (a b)), (1, .int idx), (2, .int sn), (3, .int k)] → W p l e rm_X7_assignedBy s m args below meth c H locs 0 0 Q (F0 m 9 ls []) := by
    intro n
    induction n with
    | zero =>
      intro S y w1 m1 sn k ey hSb hn hg
      omega
    | succ n ih =>
      intro S y w1 m1 sn k ey hSb hn hg H locs ls hP hD hS hl
      refine lv_aload_n hx hb dX7_assignedBy_9 rfl (lv_at hl 0 rfl) ?_
      refine va_get (D := gD Γ) (cl := vwCl) (tys := gTy Γ) (ci := 7) (v := .int y) (C := RX7) (T := TX7) (N := 18) hx hb hts iX7_assignedBy_7 hown hK hP 0 rfl rfl 15 (Nat.le_of_ble_eq_true rfl) (hts (.fieldLink RX7 98 "DeadTimeLoopModel" "spot" "I") (List.mem_of_getElem? (i := 1) rfl)) (fun _ h9 => h9) rfl dX7_assignedBy_10 ?_
      refine lv_aload_n hx hb dX7_assignedBy_13 rfl (lv_at hl 0 rfl) ?_
      refine va_get (D := gD Γ) (cl := vwCl) (tys := gTy Γ) (ci := 7) (v := .int (mLen μ)) (C := RX7) (T := TX7) (N := 18) hx hb hts iX7_assignedBy_7 hown hK hP 0 rfl rfl 11 (Nat.le_of_ble_eq_true rfl) (hts (.fieldLink RX7 94 "DeadTimeLoopModel" "length" "I") (List.mem_of_getElem? (i := 2) rfl)) (fun _ h9 => h9) rfl dX7_assignedBy_14 ?_
      refine lv_icmp_ge (tgt := 63) hx hb dX7_assignedBy_17 (by decide) (fun c_17 => ?_) (fun c_17 => ?_)
      · -- yes
        refine lv_iload_n hx hb dX7_assignedBy_63 rfl (lv_at hl 1 rfl) ?_
        refine lv_if_ge (tgt := 71) hx hb dX7_assignedBy_64 (by decide) (fun c_64 => ?_) (fun c_64 => ?_)
        · -- yes
          refine lv_ldc hx hb hown (hts (.constant RX7 82 (-2000000004)) (List.mem_of_getElem? (i := 4) rfl)) dX7_assignedBy_71 ?_
          exact re_i hQ ha hx hb hr hlk hAe hP hS dX7_assignedBy_73 (by rw [← hg, aByN_s]; (first | rw [if_pos c_17] | rw [if_neg c_17, if_pos c_24]); rw [aByE]; first | rw [if_pos c_64] | rw [if_neg c_64]) (by rw [← hg, aByN_s]; first | (rw [if_pos c_17] <;> rfl) | (rw [if_neg c_17, if_pos c_24, ← eu_21, ← eu_21b, ← eu_21c] <;> rfl))
        · -- no
          refine lv_iload_n hx hb dX7_assignedBy_67 rfl (lv_at hl 3 rfl) ?_
          refine lv_goto (tgt := 73) hx hb dX7_assignedBy_68 (by decide) ?_
          exact re_i hQ ha hx hb hr hlk hAe hP hS dX7_assignedBy_73 (by rw [← hg, aByN_s]; (first | rw [if_pos c_17] | rw [if_neg c_17, if_pos c_24]); rw [aByE]; first | rw [if_pos c_64] | rw [if_neg c_64]) (by rw [← hg, aByN_s]; first | (rw [if_pos c_17] <;> rfl) | (rw [if_neg c_17, if_pos c_24, ← eu_21, ← eu_21b, ← eu_21c] <;> rfl))
      · -- no
        refine lv_aload_n hx hb dX7_assignedBy_20 rfl (lv_at hl 0 rfl) ?_
        obtain ⟨u_21, eu_21⟩ : ∃ z : Int32, z = aSp (mText μ) (mLen μ) y := ⟨_, rfl⟩
        obtain ⟨u_21b, eu_21b⟩ : ∃ z : Int32, z = aWh (mText μ) (mLen μ) y := ⟨_, rfl⟩
        obtain ⟨u_21c, eu_21c⟩ : ∃ z : Int32, z = aNm (mText μ) (mLen μ) y m1 := ⟨_, rfl⟩
        have hM_21 : Ci Γ l yX7_isAssignment wsX7_isAssignment rm_X7_isAssignment [.ref (a b)] (modW Γ a b ((mNow μ), (mAside μ), (mKept μ), (mKm μ), (mPar μ), (mParA μ), (mBef μ), (mUm μ), (mLow μ), (mHigh μ), (mNames μ), (mLen μ), (mText μ), (mPath μ), (mIdeal μ), y, w1, m1)) (aR (mText μ) (mLen μ) (mLow μ) (mHigh μ) y) (modW Γ a b ((mNow μ), (mAside μ), (mKept μ), (mKm μ), (mPar μ), (mParA μ), (mBef μ), (mUm μ), (mLow μ), (mHigh μ), (mNames μ), (mLen μ), (mText μ), (mPath μ), (mIdeal μ), u_21, u_21b, u_21c)) := by rw [eu_21, eu_21b, eu_21c]; exact c_X7_isAsg Γ l a b ((mNow μ), (mAside μ), (mKept μ), (mKm μ), (mPar μ), (mParA μ), (mBef μ), (mUm μ), (mLow μ), (mHigh μ), (mNames μ), (mLen μ), (mText μ), (mPath μ), (mIdeal μ), y, w1, m1) hnm hL (show lenOk y from ⟨S, by have := lt_spot hL80 eL hSb (by rw [← ey]; exact c_17); omega, ey⟩)
        refine ca_Via hh hl.1 hM_21 (cwV 0 hts gX7_assignedBy_X7_isAssignment rfl rfl rfl (by decide +kernel) ⟨(Nat.le_of_ble_eq_true rfl), (Nat.le_of_ble_eq_true rfl)⟩) (As := []) (rest := []) rfl dX7_assignedBy_21 rfl (Nat.le_of_ble_eq_true rfl) hP hD hS (q0 := 0) (ci := 7) rfl rfl rfl (wf := modW Γ a b ((mNow μ), (mAside μ), (mKept μ), (mKm μ), (mPar μ), (mParA μ), (mBef μ), (mUm μ), (mLow μ), (mHigh μ), (mNames μ), (mLen μ), (mText μ), (mPath μ), (mIdeal μ), u_21, u_21b, u_21c)) rfl ⟨Nat.zero_le _, Nat.zero_le _⟩ (fun H locs hP hD hS => ?_)
        refine lv_if_eq (tgt := 63) hx hb dX7_assignedBy_24 (by decide) (fun c_24 => ?_) (fun c_24 => ?_)
        · -- yes
          refine lv_iload_n hx hb dX7_assignedBy_63 rfl (lv_at hl 1 rfl) ?_
          refine lv_if_ge (tgt := 71) hx hb dX7_assignedBy_64 (by decide) (fun c_64 => ?_) (fun c_64 => ?_)
          · -- yes
            refine lv_ldc hx hb hown (hts (.constant RX7 82 (-2000000004)) (List.mem_of_getElem? (i := 4) rfl)) dX7_assignedBy_71 ?_
            exact re_i hQ ha hx hb hr hlk hAe hP hS dX7_assignedBy_73 (by rw [← hg, aByN_s]; (first | rw [if_pos c_17] | rw [if_neg c_17, if_pos c_24]); rw [aByE]; first | rw [if_pos c_64] | rw [if_neg c_64]) (by rw [← hg, aByN_s]; first | (rw [if_pos c_17] <;> rfl) | (rw [if_neg c_17, if_pos c_24, ← eu_21, ← eu_21b, ← eu_21c] <;> rfl))
          · -- no
            refine lv_iload_n hx hb dX7_assignedBy_67 rfl (lv_at hl 3 rfl) ?_
            refine lv_goto (tgt := 73) hx hb dX7_assignedBy_68 (by decide) ?_
            exact re_i hQ ha hx hb hr hlk hAe hP hS dX7_assignedBy_73 (by rw [← hg, aByN_s]; (first | rw [if_pos c_17] | rw [if_neg c_17, if_pos c_24]); rw [aByE]; first | rw [if_pos c_64] | rw [if_neg c_64]) (by rw [← hg, aByN_s]; first | (rw [if_pos c_17] <;> rfl) | (rw [if_neg c_17, if_pos c_24, ← eu_21, ← eu_21b, ← eu_21c] <;> rfl))
        · -- no
          obtain ⟨S1, g1, g2, g3⟩ := as_adv (c := mText μ) (len := mLen μ) (lo := mLow μ) (hi := mHigh μ) (S := S) (by have := lt_spot hL80 eL hSb (by rw [← ey]; exact c_17); omega) (by rw [← ey]; exact c_24)
          have gl := lt_spot hL80 eL hSb (by rw [← ey]; exact c_17)
          refine lv_iload_n hx hb dX7_assignedBy_27 rfl (lv_at hl 2 rfl) ?_
          refine lv_aload_n hx hb dX7_assignedBy_28 rfl (lv_at hl 0 rfl) ?_
          refine va_get (D := gD Γ) (cl := vwCl) (tys := gTy Γ) (ci := 7) (v := .int u_21b) (C := RX7) (T := TX7) (N := 18) hx hb hts iX7_assignedBy_7 hown hK hP 0 rfl rfl 16 (Nat.le_of_ble_eq_true rfl) (hts (.fieldLink RX7 108 "DeadTimeLoopModel" "which" "I") (List.mem_of_getElem? (i := 3) rfl)) (fun _ h9 => h9) rfl dX7_assignedBy_29 ?_
          refine lv_ishr hx hb dX7_assignedBy_32 ?_
          refine lv_iconst (v := 1) hx hb dX7_assignedBy_33 (by decide) ?_
          refine lv_iand hx hb dX7_assignedBy_34 ?_
          refine lv_if_ne (tgt := 9) hx hb dX7_assignedBy_35 (by decide) (fun c_35 => ?_) (fun c_35 => ?_)
          · -- yes
            exact ih S1 _ _ _ _ _ (by rw [eu_21, ey]; exact g3) (by omega) (by omega) (by rw [← hg, aByN_s, if_neg c_17, if_neg c_24, ← eu_21, ← eu_21b, ← eu_21c]; first | rw [if_neg c_35] | rw [if_pos c_35, if_neg c_40]) _ _ _ hP hD hS (lv_sub hl [0, 1, 2, 3] rfl)
          · -- no
            refine lv_iload_n hx hb dX7_assignedBy_38 rfl (lv_at hl 3 rfl) ?_
            refine lv_iload_n hx hb dX7_assignedBy_39 rfl (lv_at hl 1 rfl) ?_
            refine lv_icmp_ne (tgt := 48) hx hb dX7_assignedBy_40 (by decide) (fun c_40 => ?_) (fun c_40 => ?_)
            · -- yes
              refine lv_iload_n hx hb dX7_assignedBy_48 rfl (lv_at hl 2 rfl) ?_
              refine lv_iconst (v := 1) hx hb dX7_assignedBy_49 (by decide) ?_
              refine lv_aload_n hx hb dX7_assignedBy_50 rfl (lv_at hl 0 rfl) ?_
              refine va_get (D := gD Γ) (cl := vwCl) (tys := gTy Γ) (ci := 7) (v := .int u_21b) (C := RX7) (T := TX7) (N := 18) hx hb hts iX7_assignedBy_7 hown hK hP 0 rfl rfl 16 (Nat.le_of_ble_eq_true rfl) (hts (.fieldLink RX7 108 "DeadTimeLoopModel" "which" "I") (List.mem_of_getElem? (i := 3) rfl)) (fun _ h9 => h9) rfl dX7_assignedBy_51 ?_
              refine lv_ishl hx hb dX7_assignedBy_54 ?_
              refine lv_ior hx hb dX7_assignedBy_55 ?_
              refine lv_istore_n (lv' := [(2, .int (sn ||| (1 <<< (u_21b &&& 31)))), (0, .ref (a b)), (1, .int idx), (3, .int k)]) hx hb dX7_assignedBy_56 rfl hl (by decide) rfl (fun ls hl => ?_)
              refine lv_iinc (v := (k + 1)) (lv' := [(3, .int (k + 1)), (2, .int (sn ||| (1 <<< (u_21b &&& 31)))), (0, .ref (a b)), (1, .int idx)]) hx hb dX7_assignedBy_57 hl (k := 3) rfl rfl (by decide) rfl (fun ls hl => ?_)
              refine lv_goto (tgt := 9) hx hb dX7_assignedBy_60 (by decide) ?_
              exact ih S1 _ _ _ _ _ (by rw [eu_21, ey]; exact g3) (by omega) (by omega) (by rw [← hg, aByN_s, if_neg c_17, if_neg c_24, ← eu_21, ← eu_21b, ← eu_21c]; first | rw [if_neg c_35] | rw [if_pos c_35, if_neg c_40]) _ _ _ hP hD hS (lv_sub hl [2, 3, 1, 0] rfl)
            · -- no
              refine lv_aload_n hx hb dX7_assignedBy_43 rfl (lv_at hl 0 rfl) ?_
              refine va_get (D := gD Γ) (cl := vwCl) (tys := gTy Γ) (ci := 7) (v := .int u_21b) (C := RX7) (T := TX7) (N := 18) hx hb hts iX7_assignedBy_7 hown hK hP 0 rfl rfl 16 (Nat.le_of_ble_eq_true rfl) (hts (.fieldLink RX7 108 "DeadTimeLoopModel" "which" "I") (List.mem_of_getElem? (i := 3) rfl)) (fun _ h9 => h9) rfl dX7_assignedBy_44 ?_
              exact re_i hQ ha hx hb hr hlk hAe hP hS dX7_assignedBy_47 (by rw [← hg, aByN_s, if_neg c_17, if_neg c_24, ← eu_21, ← eu_21b, ← eu_21c, if_pos c_35, if_pos c_40]) (by rw [← hg, aByN_s, if_neg c_17, if_neg c_24, ← eu_21, ← eu_21b, ← eu_21c, if_pos c_35, if_pos c_40] <;> rfl)
  exact hJ_9 81 0 0 _ _ _ _ rfl (by omega) (by omega) rfl _ _ _ hP hD hS (lv_sub hl [2, 3, 1, 0] rfl)
def rm_X7_assigned : Room := { frames := 4, cells := 0, slots := 0, locals := 91 }
set_option maxHeartbeats 1000000 in
set_option maxRecDepth 100000 in
theorem c_X7_assigned (Γ : gT) (l : Launch) (a : Nat → Nat) (b : Nat) (μ : Mst) (hnm : nmOk (mNames μ)) (hL : lenOk (mLen μ)) : Ci Γ l yX7_assigned wsX7_assigned rm_X7_assigned [.ref (a b)] (modW Γ a b μ) (jAssigned μ) (modW Γ a b (hAssigned μ)) := by
  refine Ci.of (cc := cX7_assigned) (own := RX7) (nL := 1) (ret := (some .int)) (by decide +kernel) rfl rfl (Nat.le_of_ble_eq_true rfl) ?_
  intro p e s m args below meth c A Q H locs ls ha hAe hQ hx hb hml hr hts hown hlk hP hK hD hS hA hG hl
  have hh : Hd Γ p s m args c cX7_assigned RX7 1 wsX7_assigned A := ⟨⟨hx, hb, hml, hown, hts⟩, hK, hA, hG⟩
  have hl : lv_has ls 1 [(0, .ref (a b))] := hl
  refine lv_aload_n hx hb dX7_assigned_0 rfl (lv_at hl 0 rfl) ?_
  obtain ⟨u_1, eu_1⟩ : ∃ z : Int32, z = (aFl μ).2.1 := ⟨_, rfl⟩
  obtain ⟨u_1b, eu_1b⟩ : ∃ z : Int32, z = (aFl μ).2.2.1 := ⟨_, rfl⟩
  obtain ⟨u_1c, eu_1c⟩ : ∃ z : Int32, z = (aFl μ).2.2.2 := ⟨_, rfl⟩
  have hM_1 : Ci Γ l yX7_faultOf wsX7_faultOf rm_X7_faultOf [.ref (a b)] (modW Γ a b μ) ((aFl μ).1) (modW Γ a b ((mNow μ), (mAside μ), (mKept μ), (mKm μ), (mPar μ), (mParA μ), (mBef μ), (mUm μ), (mLow μ), (mHigh μ), (mNames μ), (mLen μ), (mText μ), (mPath μ), (mIdeal μ), u_1, u_1b, u_1c)) := by rw [eu_1, eu_1b, eu_1c]; exact c_X7_faultOf Γ l a b μ hnm hL
  refine ca_Via hh hl.1 hM_1 (cwV 0 hts gX7_assigned_X7_faultOf rfl rfl rfl (by decide +kernel) ⟨(Nat.le_of_ble_eq_true rfl), (Nat.le_of_ble_eq_true rfl)⟩) (As := []) (rest := []) rfl dX7_assigned_1 rfl (Nat.le_of_ble_eq_true rfl) hP hD hS (q0 := 0) (ci := 7) rfl rfl rfl (wf := modW Γ a b ((mNow μ), (mAside μ), (mKept μ), (mKm μ), (mPar μ), (mParA μ), (mBef μ), (mUm μ), (mLow μ), (mHigh μ), (mNames μ), (mLen μ), (mText μ), (mPath μ), (mIdeal μ), u_1, u_1b, u_1c)) rfl ⟨Nat.zero_le _, Nat.zero_le _⟩ (fun H locs hP hD hS => ?_)
  refine lv_ldc hx hb hown (hts (.constant RX7 82 (-2000000004)) (List.mem_of_getElem? (i := 1) rfl)) dX7_assigned_4 ?_
  refine lv_icmp_eq (tgt := 14) hx hb dX7_assigned_6 (by decide) (fun c_6 => ?_) (fun c_6 => ?_)
  · -- yes
    refine lv_aload_n hx hb dX7_assigned_14 rfl (lv_at hl 0 rfl) ?_
    refine lv_iconst (v := (-1)) hx hb dX7_assigned_15 (by decide) ?_
    obtain ⟨u_16, eu_16⟩ : ∃ z : Int32, z = (aBy (mText μ) (mLen μ) (mLow μ) (mHigh μ) (-1) u_1b u_1c).2.1 := ⟨_, rfl⟩
    obtain ⟨u_16b, eu_16b⟩ : ∃ z : Int32, z = (aBy (mText μ) (mLen μ) (mLow μ) (mHigh μ) (-1) u_1b u_1c).2.2.1 := ⟨_, rfl⟩
    obtain ⟨u_16c, eu_16c⟩ : ∃ z : Int32, z = (aBy (mText μ) (mLen μ) (mLow μ) (mHigh μ) (-1) u_1b u_1c).2.2.2 := ⟨_, rfl⟩
    have hM_16 : Ci Γ l yX7_assignedBy wsX7_assignedBy rm_X7_assignedBy [.ref (a b), .int (-1)] (modW Γ a b ((mNow μ), (mAside μ), (mKept μ), (mKm μ), (mPar μ), (mParA μ), (mBef μ), (mUm μ), (mLow μ), (mHigh μ), (mNames μ), (mLen μ), (mText μ), (mPath μ), (mIdeal μ), u_1, u_1b, u_1c)) ((aBy (mText μ) (mLen μ) (mLow μ) (mHigh μ) (-1) u_1b u_1c).1) (modW Γ a b ((mNow μ), (mAside μ), (mKept μ), (mKm μ), (mPar μ), (mParA μ), (mBef μ), (mUm μ), (mLow μ), (mHigh μ), (mNames μ), (mLen μ), (mText μ), (mPath μ), (mIdeal μ), u_16, u_16b, u_16c)) := by rw [eu_16, eu_16b, eu_16c]; exact c_X7_assignedBy Γ l a b ((mNow μ), (mAside μ), (mKept μ), (mKm μ), (mPar μ), (mParA μ), (mBef μ), (mUm μ), (mLow μ), (mHigh μ), (mNames μ), (mLen μ), (mText μ), (mPath μ), (mIdeal μ), u_1, u_1b, u_1c) (-1) hnm hL
    refine ca_Via hh hl.1 hM_16 (cwV 1 hts gX7_assigned_X7_assignedBy rfl rfl rfl (by decide +kernel) ⟨(Nat.le_of_ble_eq_true rfl), (Nat.le_of_ble_eq_true rfl)⟩) (As := [.int (-1)]) (rest := []) rfl dX7_assigned_16 rfl (Nat.le_of_ble_eq_true rfl) hP hD hS (q0 := 0) (ci := 7) rfl rfl rfl (wf := modW Γ a b ((mNow μ), (mAside μ), (mKept μ), (mKm μ), (mPar μ), (mParA μ), (mBef μ), (mUm μ), (mLow μ), (mHigh μ), (mNames μ), (mLen μ), (mText μ), (mPath μ), (mIdeal μ), u_16, u_16b, u_16c)) rfl ⟨Nat.zero_le _, Nat.zero_le _⟩ (fun H locs hP hD hS => ?_)
    exact re_i hQ ha hx hb hr hlk hAe hP hS dX7_assigned_19 (by first | rw [jAssigned, if_neg c_6] | rw [jAssigned, if_pos c_6, aB, ← eu_1b, ← eu_1c]) (by first | (rw [hAssigned, if_neg c_6, eu_1, eu_1b, eu_1c] <;> rfl) | (rw [hAssigned, if_pos c_6, aB, ← eu_1b, ← eu_1c, ← eu_16, ← eu_16b, ← eu_16c] <;> rfl))
  · -- no
    refine lv_ldc hx hb hown (hts (.constant RX7 83 (-2000000002)) (List.mem_of_getElem? (i := 2) rfl)) dX7_assigned_9 ?_
    refine lv_goto (tgt := 19) hx hb dX7_assigned_11 (by decide) ?_
    exact re_i hQ ha hx hb hr hlk hAe hP hS dX7_assigned_19 (by first | rw [jAssigned, if_neg c_6] | rw [jAssigned, if_pos c_6, aB, ← eu_1b, ← eu_1c]) (by first | (rw [hAssigned, if_neg c_6, eu_1, eu_1b, eu_1c] <;> rfl) | (rw [hAssigned, if_pos c_6, aB, ← eu_1b, ← eu_1c, ← eu_16, ← eu_16b, ← eu_16c] <;> rfl))
def rm_X7_assignedAt : Room := { frames := 4, cells := 0, slots := 0, locals := 91 }
set_option maxHeartbeats 1000000 in
set_option maxRecDepth 100000 in
theorem c_X7_assignedAt (Γ : gT) (l : Launch) (a : Nat → Nat) (b : Nat) (μ : Mst) (i1 : Int32) (hnm : nmOk (mNames μ)) (hL : lenOk (mLen μ)) : Ci Γ l yX7_assignedAt wsX7_assignedAt rm_X7_assignedAt [.ref (a b), .int i1] (modW Γ a b μ) (jAssignedAt μ i1) (modW Γ a b (hAssignedAt μ i1)) := by
  refine Ci.of (cc := cX7_assignedAt) (own := RX7) (nL := 2) (ret := (some .int)) (by decide +kernel) rfl rfl (Nat.le_of_ble_eq_true rfl) ?_
  intro p e s m args below meth c A Q H locs ls ha hAe hQ hx hb hml hr hts hown hlk hP hK hD hS hA hG hl
  have hh : Hd Γ p s m args c cX7_assignedAt RX7 2 wsX7_assignedAt A := ⟨⟨hx, hb, hml, hown, hts⟩, hK, hA, hG⟩
  have hl : lv_has ls 2 [(0, .ref (a b)), (1, .int i1)] := hl
  refine lv_iload_n hx hb dX7_assignedAt_0 rfl (lv_at hl 1 rfl) ?_
  refine lv_if_ge (tgt := 7) hx hb dX7_assignedAt_1 (by decide) (fun c_1 => ?_) (fun c_1 => ?_)
  · -- yes
    refine lv_aload_n hx hb dX7_assignedAt_7 rfl (lv_at hl 0 rfl) ?_
    obtain ⟨u_8, eu_8⟩ : ∃ z : Int32, z = (aFl μ).2.1 := ⟨_, rfl⟩
    obtain ⟨u_8b, eu_8b⟩ : ∃ z : Int32, z = (aFl μ).2.2.1 := ⟨_, rfl⟩
    obtain ⟨u_8c, eu_8c⟩ : ∃ z : Int32, z = (aFl μ).2.2.2 := ⟨_, rfl⟩
    have hM_8 : Ci Γ l yX7_faultOf wsX7_faultOf rm_X7_faultOf [.ref (a b)] (modW Γ a b μ) ((aFl μ).1) (modW Γ a b ((mNow μ), (mAside μ), (mKept μ), (mKm μ), (mPar μ), (mParA μ), (mBef μ), (mUm μ), (mLow μ), (mHigh μ), (mNames μ), (mLen μ), (mText μ), (mPath μ), (mIdeal μ), u_8, u_8b, u_8c)) := by rw [eu_8, eu_8b, eu_8c]; exact c_X7_faultOf Γ l a b μ hnm hL
    refine ca_Via hh hl.1 hM_8 (cwV 0 hts gX7_assignedAt_X7_faultOf rfl rfl rfl (by decide +kernel) ⟨(Nat.le_of_ble_eq_true rfl), (Nat.le_of_ble_eq_true rfl)⟩) (As := []) (rest := []) rfl dX7_assignedAt_8 rfl (Nat.le_of_ble_eq_true rfl) hP hD hS (q0 := 0) (ci := 7) rfl rfl rfl (wf := modW Γ a b ((mNow μ), (mAside μ), (mKept μ), (mKm μ), (mPar μ), (mParA μ), (mBef μ), (mUm μ), (mLow μ), (mHigh μ), (mNames μ), (mLen μ), (mText μ), (mPath μ), (mIdeal μ), u_8, u_8b, u_8c)) rfl ⟨Nat.zero_le _, Nat.zero_le _⟩ (fun H locs hP hD hS => ?_)
    refine lv_ldc hx hb hown (hts (.constant RX7 82 (-2000000004)) (List.mem_of_getElem? (i := 2) rfl)) dX7_assignedAt_11 ?_
    refine lv_icmp_eq (tgt := 21) hx hb dX7_assignedAt_13 (by decide) (fun c_13 => ?_) (fun c_13 => ?_)
    · -- yes
      refine lv_aload_n hx hb dX7_assignedAt_21 rfl (lv_at hl 0 rfl) ?_
      refine lv_iload_n hx hb dX7_assignedAt_22 rfl (lv_at hl 1 rfl) ?_
      obtain ⟨u_23, eu_23⟩ : ∃ z : Int32, z = (aBy (mText μ) (mLen μ) (mLow μ) (mHigh μ) i1 u_8b u_8c).2.1 := ⟨_, rfl⟩
      obtain ⟨u_23b, eu_23b⟩ : ∃ z : Int32, z = (aBy (mText μ) (mLen μ) (mLow μ) (mHigh μ) i1 u_8b u_8c).2.2.1 := ⟨_, rfl⟩
      obtain ⟨u_23c, eu_23c⟩ : ∃ z : Int32, z = (aBy (mText μ) (mLen μ) (mLow μ) (mHigh μ) i1 u_8b u_8c).2.2.2 := ⟨_, rfl⟩
      have hM_23 : Ci Γ l yX7_assignedBy wsX7_assignedBy rm_X7_assignedBy [.ref (a b), .int i1] (modW Γ a b ((mNow μ), (mAside μ), (mKept μ), (mKm μ), (mPar μ), (mParA μ), (mBef μ), (mUm μ), (mLow μ), (mHigh μ), (mNames μ), (mLen μ), (mText μ), (mPath μ), (mIdeal μ), u_8, u_8b, u_8c)) ((aBy (mText μ) (mLen μ) (mLow μ) (mHigh μ) i1 u_8b u_8c).1) (modW Γ a b ((mNow μ), (mAside μ), (mKept μ), (mKm μ), (mPar μ), (mParA μ), (mBef μ), (mUm μ), (mLow μ), (mHigh μ), (mNames μ), (mLen μ), (mText μ), (mPath μ), (mIdeal μ), u_23, u_23b, u_23c)) := by rw [eu_23, eu_23b, eu_23c]; exact c_X7_assignedBy Γ l a b ((mNow μ), (mAside μ), (mKept μ), (mKm μ), (mPar μ), (mParA μ), (mBef μ), (mUm μ), (mLow μ), (mHigh μ), (mNames μ), (mLen μ), (mText μ), (mPath μ), (mIdeal μ), u_8, u_8b, u_8c) i1 hnm hL
      refine ca_Via hh hl.1 hM_23 (cwV 1 hts gX7_assignedAt_X7_assignedBy rfl rfl rfl (by decide +kernel) ⟨(Nat.le_of_ble_eq_true rfl), (Nat.le_of_ble_eq_true rfl)⟩) (As := [.int i1]) (rest := []) rfl dX7_assignedAt_23 rfl (Nat.le_of_ble_eq_true rfl) hP hD hS (q0 := 0) (ci := 7) rfl rfl rfl (wf := modW Γ a b ((mNow μ), (mAside μ), (mKept μ), (mKm μ), (mPar μ), (mParA μ), (mBef μ), (mUm μ), (mLow μ), (mHigh μ), (mNames μ), (mLen μ), (mText μ), (mPath μ), (mIdeal μ), u_23, u_23b, u_23c)) rfl ⟨Nat.zero_le _, Nat.zero_le _⟩ (fun H locs hP hD hS => ?_)
      exact re_i hQ ha hx hb hr hlk hAe hP hS dX7_assignedAt_26 (by first | rw [jAssignedAt, if_pos c_1, if_neg c_13] | rw [jAssignedAt, if_pos c_1, if_pos c_13, aB, ← eu_8b, ← eu_8c]) (by first | (rw [hAssignedAt, if_pos c_1, if_neg c_13, eu_8, eu_8b, eu_8c] <;> rfl) | (rw [hAssignedAt, if_pos c_1, if_pos c_13, aB, ← eu_8b, ← eu_8c, ← eu_23, ← eu_23b, ← eu_23c] <;> rfl))
    · -- no
      refine lv_ldc hx hb hown (hts (.constant RX7 83 (-2000000002)) (List.mem_of_getElem? (i := 3) rfl)) dX7_assignedAt_16 ?_
      refine lv_goto (tgt := 26) hx hb dX7_assignedAt_18 (by decide) ?_
      exact re_i hQ ha hx hb hr hlk hAe hP hS dX7_assignedAt_26 (by first | rw [jAssignedAt, if_pos c_1, if_neg c_13] | rw [jAssignedAt, if_pos c_1, if_pos c_13, aB, ← eu_8b, ← eu_8c]) (by first | (rw [hAssignedAt, if_pos c_1, if_neg c_13, eu_8, eu_8b, eu_8c] <;> rfl) | (rw [hAssignedAt, if_pos c_1, if_pos c_13, aB, ← eu_8b, ← eu_8c, ← eu_23, ← eu_23b, ← eu_23c] <;> rfl))
  · -- no
    refine lv_ldc hx hb hown (hts (.constant RX7 74 (-2000000001)) (List.mem_of_getElem? (i := 1) rfl)) dX7_assignedAt_4 ?_
    exact re_i hQ ha hx hb hr hlk hAe hP hS dX7_assignedAt_6 (by rw [jAssignedAt, if_neg c_1]) (by rw [hAssignedAt, if_neg c_1])
