def rm_X7_clears : Room := { frames := 0, cells := 0, slots := 0, locals := 0 }
theorem iX7_clears_7 : ∀ w ∈ u_ws RX7 TX7 18, w ∈ wsX7_clears := fun w h => (List.mem_cons_of_mem _ (List.mem_append_right _ h))
set_option maxHeartbeats 1000000 in
set_option maxRecDepth 100000 in
theorem c_X7_clears (Γ : gT) (l : Launch) (a : Nat → Nat) (b : Nat) (μ : Mst)  : Cv Γ l yX7_clears wsX7_clears rm_X7_clears [.ref (a b)] (modW Γ a b μ) (modW Γ a b (mPut_now μ (mZeroN (mNow μ) 681))) := by
  refine Cv.of (cc := cX7_clears) (own := RX7) (nL := 2) (ret := none) (by decide +kernel) rfl rfl (Nat.le_of_ble_eq_true rfl) ?_
  intro p e s m args below meth c A Q H locs ls ha hAe hQ hx hb hml hr hts hown hlk hP hK hD hS hA hG hl
  have hh : Hd Γ p s m args c cX7_clears RX7 2 wsX7_clears A := ⟨⟨hx, hb, hml, hown, hts⟩, hK, hA, hG⟩
  have hl : lv_has ls 2 [(0, .ref (a b))] := hl
  refine lv_iconst (v := 0) hx hb dX7_clears_0 (by decide) ?_
  refine lv_istore_n (lv' := [(1, .int 0), (0, .ref (a b))]) hx hb dX7_clears_1 rfl hl (by decide) rfl (fun ls hl => ?_)
  have hJ_2 : ∀ n : Nat, ∀ (i : Nat) (x : Int32), (x = nI i) → (i ≤ 681) → (682 ≤ i + n) → ∀ (H : Heap) (locs : List Loc) (ls : Array Slot), va_P (gD Γ) vwCl (modW Γ a b ((mZeroN (mNow μ) i), (mAside μ), (mKept μ), (mKm μ), (mPar μ), (mParA μ), (mBef μ), (mUm μ), (mLow μ), (mHigh μ), (mNames μ), (mLen μ), (mText μ), (mPath μ), (mIdeal μ), (mSpot μ), (mWhich μ), (mNum μ))) H → va_D A (modW Γ a b ((mZeroN (mNow μ) i), (mAside μ), (mKept μ), (mKm μ), (mPar μ), (mParA μ), (mBef μ), (mUm μ), (mLow μ), (mHigh μ), (mNames μ), (mLen μ), (mText μ), (mPath μ), (mIdeal μ), (mSpot μ), (mWhich μ), (mNum μ))) → va_S A s.heap H locs → lv_has ls 2 [(0, .ref (a b)), (1, .int x)] → W p l e rm_X7_clears s m args below meth c H locs 0 0 Q (F0 m 2 ls []) := by
    intro n
    induction n with
    | zero =>
      intro i x ex hi hn
      intro _ h1 h2; omega
    | succ n ih =>
      intro i x ex hi hn H locs ls hP hD hS hl
      refine lv_iload_n hx hb dX7_clears_2 rfl (lv_at hl 1 rfl) ?_
      refine lv_sipush (v := 681) hx hb dX7_clears_3 (by decide) ?_
      refine lv_icmp_ge (tgt := 22) hx hb dX7_clears_6 (by decide) (fun c_6 => ?_) (fun c_6 => ?_)
      · -- yes
        exact re_v hQ ha hx hb hr hlk hAe hP hS dX7_clears_22 (by have hiN : i = 681 := (by have q0 := c_6; rw [ex] at q0; rcases Nat.lt_or_ge i 681 with q | q; exact absurd q0 (nI_ge q (by decide)); omega); subst hiN; rfl)
      · -- no
        refine lv_aload_n hx hb dX7_clears_9 rfl (lv_at hl 0 rfl) ?_
        refine va_get (D := gD Γ) (cl := vwCl) (tys := gTy Γ) (ci := 7) (v := .ref (a (b + 1))) (C := RX7) (T := TX7) (N := 18) hx hb hts iX7_clears_7 hown hK hP 0 rfl rfl 0 (Nat.le_of_ble_eq_true rfl) (hts (.fieldLink RX7 7 "DeadTimeLoopModel" "now" "[J") (List.mem_of_getElem? (i := 1) rfl)) (fun _ h9 => h9) rfl dX7_clears_10 ?_
        refine lv_iload_n hx hb dX7_clears_13 rfl (lv_at hl 1 rfl) ?_
        refine lv_lconst (v := 0) hx hb dX7_clears_14 (by decide) ?_
        refine ka_last (D := gD Γ) (cl := vwCl) (tys := gTy Γ) hx hb hK hP hD hS 1 1 rfl rfl i ex (lt_of_nle (k := 681) (by rw [← ex]; exact c_6) (by omega) (by decide)) (by decide) (wf := modW Γ a b ((vp_updL (mZeroN (mNow μ) i) i 0), (mAside μ), (mKept μ), (mKm μ), (mPar μ), (mParA μ), (mBef μ), (mUm μ), (mLow μ), (mHigh μ), (mNames μ), (mLen μ), (mText μ), (mPath μ), (mIdeal μ), (mSpot μ), (mWhich μ), (mNum μ))) rfl dX7_clears_15 (fun H locs hP hD hS => ?_)
        refine lv_iinc (v := (x + 1)) (lv' := [(1, .int (x + 1)), (0, .ref (a b))]) hx hb dX7_clears_16 hl (k := 1) rfl rfl (by decide) rfl (fun ls hl => ?_)
        refine lv_goto (tgt := 2) hx hb dX7_clears_19 (by decide) ?_
        exact ih (i + 1) _ (by rw [ex]; exact nI_1 i) (by have := lt_of_nle (i := i) (k := 681) (by rw [← ex]; exact c_6) (by omega) (by decide); omega) (by omega) _ _ _ hP hD hS (lv_sub hl [1, 0] rfl)
  exact hJ_2 682 0 0 rfl (by omega) (by omega) _ _ _ hP hD hS (lv_sub hl [1, 0] rfl)
def rm_X7_putsAside : Room := { frames := 0, cells := 0, slots := 0, locals := 0 }
theorem iX7_putsAside_7 : ∀ w ∈ u_ws RX7 TX7 18, w ∈ wsX7_putsAside := fun w h => (List.mem_cons_of_mem _ (List.mem_append_right _ h))
set_option maxHeartbeats 1000000 in
set_option maxRecDepth 100000 in
theorem c_X7_putsAside (Γ : gT) (l : Launch) (a : Nat → Nat) (b : Nat) (μ : Mst)  : Cv Γ l yX7_putsAside wsX7_putsAside rm_X7_putsAside [.ref (a b)] (modW Γ a b μ) (modW Γ a b (mPut_parAside (mPut_aside μ (mCpL (mAside μ) (mNow μ) 681)) (mCpI (mParA μ) (mPar μ) 15))) := by
  refine Cv.of (cc := cX7_putsAside) (own := RX7) (nL := 2) (ret := none) (by decide +kernel) rfl rfl (Nat.le_of_ble_eq_true rfl) ?_
  intro p e s m args below meth c A Q H locs ls ha hAe hQ hx hb hml hr hts hown hlk hP hK hD hS hA hG hl
  have hh : Hd Γ p s m args c cX7_putsAside RX7 2 wsX7_putsAside A := ⟨⟨hx, hb, hml, hown, hts⟩, hK, hA, hG⟩
  have hl : lv_has ls 2 [(0, .ref (a b))] := hl
  refine lv_iconst (v := 0) hx hb dX7_putsAside_0 (by decide) ?_
  refine lv_istore_n (lv' := [(1, .int 0), (0, .ref (a b))]) hx hb dX7_putsAside_1 rfl hl (by decide) rfl (fun ls hl => ?_)
  have hJ_2 : ∀ n : Nat, ∀ (i : Nat) (x : Int32), (x = nI i) → (i ≤ 681) → (682 ≤ i + n) → ∀ (H : Heap) (locs : List Loc) (ls : Array Slot), va_P (gD Γ) vwCl (modW Γ a b ((mNow μ), (mCpL (mAside μ) (mNow μ) i), (mKept μ), (mKm μ), (mPar μ), (mParA μ), (mBef μ), (mUm μ), (mLow μ), (mHigh μ), (mNames μ), (mLen μ), (mText μ), (mPath μ), (mIdeal μ), (mSpot μ), (mWhich μ), (mNum μ))) H → va_D A (modW Γ a b ((mNow μ), (mCpL (mAside μ) (mNow μ) i), (mKept μ), (mKm μ), (mPar μ), (mParA μ), (mBef μ), (mUm μ), (mLow μ), (mHigh μ), (mNames μ), (mLen μ), (mText μ), (mPath μ), (mIdeal μ), (mSpot μ), (mWhich μ), (mNum μ))) → va_S A s.heap H locs → lv_has ls 2 [(0, .ref (a b)), (1, .int x)] → W p l e rm_X7_putsAside s m args below meth c H locs 0 0 Q (F0 m 2 ls []) := by
    intro n
    induction n with
    | zero =>
      intro i x ex hi hn
      intro _ h1 h2; omega
    | succ n ih =>
      intro i x ex hi hn H locs ls hP hD hS hl
      refine lv_iload_n hx hb dX7_putsAside_2 rfl (lv_at hl 1 rfl) ?_
      refine lv_sipush (v := 681) hx hb dX7_putsAside_3 (by decide) ?_
      refine lv_icmp_ge (tgt := 27) hx hb dX7_putsAside_6 (by decide) (fun c_6 => ?_) (fun c_6 => ?_)
      · -- yes
        have hiN : i = 681 := (by have q0 := c_6; rw [ex] at q0; rcases Nat.lt_or_ge i 681 with q | q; exact absurd q0 (nI_ge q (by decide)); omega)
        subst hiN
        refine lv_iconst (v := 0) hx hb dX7_putsAside_27 (by decide) ?_
        refine lv_istore_n (lv' := [(1, .int 0), (0, .ref (a b))]) hx hb dX7_putsAside_28 rfl hl (by decide) rfl (fun ls hl => ?_)
        have hJ_29 : ∀ n : Nat, ∀ (j : Nat) (z : Int32), (z = nI j) → (j ≤ 15) → (16 ≤ j + n) → ∀ (H : Heap) (locs : List Loc) (ls : Array Slot), va_P (gD Γ) vwCl (modW Γ a b ((mNow μ), (mCpL (mAside μ) (mNow μ) 681), (mKept μ), (mKm μ), (mPar μ), (mCpI (mParA μ) (mPar μ) j), (mBef μ), (mUm μ), (mLow μ), (mHigh μ), (mNames μ), (mLen μ), (mText μ), (mPath μ), (mIdeal μ), (mSpot μ), (mWhich μ), (mNum μ))) H → va_D A (modW Γ a b ((mNow μ), (mCpL (mAside μ) (mNow μ) 681), (mKept μ), (mKm μ), (mPar μ), (mCpI (mParA μ) (mPar μ) j), (mBef μ), (mUm μ), (mLow μ), (mHigh μ), (mNames μ), (mLen μ), (mText μ), (mPath μ), (mIdeal μ), (mSpot μ), (mWhich μ), (mNum μ))) → va_S A s.heap H locs → lv_has ls 2 [(0, .ref (a b)), (1, .int z)] → W p l e rm_X7_putsAside s m args below meth c H locs 0 0 Q (F0 m 29 ls []) := by
          intro n
          induction n with
          | zero =>
            intro j z ez hj hn
            intro _ h1 h2; omega
          | succ n ih =>
            intro j z ez hj hn H locs ls hP hD hS hl
            refine lv_iload_n hx hb dX7_putsAside_29 rfl (lv_at hl 1 rfl) ?_
            refine lv_bipush (v := 15) hx hb dX7_putsAside_30 (by decide) ?_
            refine lv_icmp_ge (tgt := 53) hx hb dX7_putsAside_32 (by decide) (fun c_32 => ?_) (fun c_32 => ?_)
            · -- yes
              exact re_v hQ ha hx hb hr hlk hAe hP hS dX7_putsAside_53 (by have hiN : j = 15 := (by have q0 := c_32; rw [ez] at q0; rcases Nat.lt_or_ge j 15 with q | q; exact absurd q0 (nI_ge q (by decide)); omega); subst hiN; rfl)
            · -- no
              refine lv_aload_n hx hb dX7_putsAside_35 rfl (lv_at hl 0 rfl) ?_
              refine va_get (D := gD Γ) (cl := vwCl) (tys := gTy Γ) (ci := 7) (v := .ref (a (b + 5))) (C := RX7) (T := TX7) (N := 18) hx hb hts iX7_putsAside_7 hown hK hP 0 rfl rfl 5 (Nat.le_of_ble_eq_true rfl) (hts (.fieldLink RX7 23 "DeadTimeLoopModel" "parAside" "[I") (List.mem_of_getElem? (i := 3) rfl)) (fun _ h9 => h9) rfl dX7_putsAside_36 ?_
              refine lv_iload_n hx hb dX7_putsAside_39 rfl (lv_at hl 1 rfl) ?_
              refine lv_aload_n hx hb dX7_putsAside_40 rfl (lv_at hl 0 rfl) ?_
              refine va_get (D := gD Γ) (cl := vwCl) (tys := gTy Γ) (ci := 7) (v := .ref (a (b + 4))) (C := RX7) (T := TX7) (N := 18) hx hb hts iX7_putsAside_7 hown hK hP 0 rfl rfl 4 (Nat.le_of_ble_eq_true rfl) (hts (.fieldLink RX7 19 "DeadTimeLoopModel" "par" "[I") (List.mem_of_getElem? (i := 4) rfl)) (fun _ h9 => h9) rfl dX7_putsAside_41 ?_
              refine lv_iload_n hx hb dX7_putsAside_44 rfl (lv_at hl 1 rfl) ?_
              refine ka_iald (D := gD Γ) (cl := vwCl) (tys := gTy Γ) hx hb hK hP 4 0 rfl rfl j ez (lt_of_nle (k := 15) (by rw [← ez]; exact c_32) (by omega) (by decide)) (by decide) (v := ((mPar μ) j)) rfl dX7_putsAside_45 ?_
              refine ka_iast (D := gD Γ) (cl := vwCl) (tys := gTy Γ) hx hb hK hP hD hS 5 0 rfl rfl j ez (lt_of_nle (k := 15) (by rw [← ez]; exact c_32) (by omega) (by decide)) (by decide) (wf := modW Γ a b ((mNow μ), (mCpL (mAside μ) (mNow μ) 681), (mKept μ), (mKm μ), (mPar μ), (upd (mCpI (mParA μ) (mPar μ) j) j ((mPar μ) j)), (mBef μ), (mUm μ), (mLow μ), (mHigh μ), (mNames μ), (mLen μ), (mText μ), (mPath μ), (mIdeal μ), (mSpot μ), (mWhich μ), (mNum μ))) rfl dX7_putsAside_46 (fun H locs hP hD hS => ?_)
              refine lv_iinc (v := (z + 1)) (lv' := [(1, .int (z + 1)), (0, .ref (a b))]) hx hb dX7_putsAside_47 hl (k := 1) rfl rfl (by decide) rfl (fun ls hl => ?_)
              refine lv_goto (tgt := 29) hx hb dX7_putsAside_50 (by decide) ?_
              exact ih (j + 1) _ (by rw [ez]; exact nI_1 j) (by have := lt_of_nle (i := j) (k := 15) (by rw [← ez]; exact c_32) (by omega) (by decide); omega) (by omega) _ _ _ hP hD hS (lv_sub hl [1, 0] rfl)
        exact hJ_29 16 0 0 rfl (by omega) (by omega) _ _ _ hP hD hS (lv_sub hl [1, 0] rfl)
      · -- no
        refine lv_aload_n hx hb dX7_putsAside_9 rfl (lv_at hl 0 rfl) ?_
        refine va_get (D := gD Γ) (cl := vwCl) (tys := gTy Γ) (ci := 7) (v := .ref (a (b + 2))) (C := RX7) (T := TX7) (N := 18) hx hb hts iX7_putsAside_7 hown hK hP 0 rfl rfl 1 (Nat.le_of_ble_eq_true rfl) (hts (.fieldLink RX7 13 "DeadTimeLoopModel" "aside" "[J") (List.mem_of_getElem? (i := 1) rfl)) (fun _ h9 => h9) rfl dX7_putsAside_10 ?_
        refine lv_iload_n hx hb dX7_putsAside_13 rfl (lv_at hl 1 rfl) ?_
        refine lv_aload_n hx hb dX7_putsAside_14 rfl (lv_at hl 0 rfl) ?_
        refine va_get (D := gD Γ) (cl := vwCl) (tys := gTy Γ) (ci := 7) (v := .ref (a (b + 1))) (C := RX7) (T := TX7) (N := 18) hx hb hts iX7_putsAside_7 hown hK hP 0 rfl rfl 0 (Nat.le_of_ble_eq_true rfl) (hts (.fieldLink RX7 7 "DeadTimeLoopModel" "now" "[J") (List.mem_of_getElem? (i := 2) rfl)) (fun _ h9 => h9) rfl dX7_putsAside_15 ?_
        refine lv_iload_n hx hb dX7_putsAside_18 rfl (lv_at hl 1 rfl) ?_
        refine ka_lald (D := gD Γ) (cl := vwCl) (tys := gTy Γ) hx hb hK hP 1 1 rfl rfl i ex (lt_of_nle (k := 681) (by rw [← ex]; exact c_6) (by omega) (by decide)) (by decide) (v := ((mNow μ) i)) rfl dX7_putsAside_19 ?_
        refine ka_last (D := gD Γ) (cl := vwCl) (tys := gTy Γ) hx hb hK hP hD hS 2 1 rfl rfl i ex (lt_of_nle (k := 681) (by rw [← ex]; exact c_6) (by omega) (by decide)) (by decide) (wf := modW Γ a b ((mNow μ), (vp_updL (mCpL (mAside μ) (mNow μ) i) i ((mNow μ) i)), (mKept μ), (mKm μ), (mPar μ), (mParA μ), (mBef μ), (mUm μ), (mLow μ), (mHigh μ), (mNames μ), (mLen μ), (mText μ), (mPath μ), (mIdeal μ), (mSpot μ), (mWhich μ), (mNum μ))) rfl dX7_putsAside_20 (fun H locs hP hD hS => ?_)
        refine lv_iinc (v := (x + 1)) (lv' := [(1, .int (x + 1)), (0, .ref (a b))]) hx hb dX7_putsAside_21 hl (k := 1) rfl rfl (by decide) rfl (fun ls hl => ?_)
        refine lv_goto (tgt := 2) hx hb dX7_putsAside_24 (by decide) ?_
        exact ih (i + 1) _ (by rw [ex]; exact nI_1 i) (by have := lt_of_nle (i := i) (k := 681) (by rw [← ex]; exact c_6) (by omega) (by decide); omega) (by omega) _ _ _ hP hD hS (lv_sub hl [1, 0] rfl)
  exact hJ_2 682 0 0 rfl (by omega) (by omega) _ _ _ hP hD hS (lv_sub hl [1, 0] rfl)
def rm_X7_putsBack : Room := { frames := 0, cells := 0, slots := 0, locals := 0 }
theorem iX7_putsBack_7 : ∀ w ∈ u_ws RX7 TX7 18, w ∈ wsX7_putsBack := fun w h => (List.mem_cons_of_mem _ (List.mem_append_right _ h))
set_option maxHeartbeats 1000000 in
set_option maxRecDepth 100000 in
theorem c_X7_putsBack (Γ : gT) (l : Launch) (a : Nat → Nat) (b : Nat) (μ : Mst)  : Cv Γ l yX7_putsBack wsX7_putsBack rm_X7_putsBack [.ref (a b)] (modW Γ a b μ) (modW Γ a b (mPut_par (mPut_now μ (mCpL (mNow μ) (mAside μ) 681)) (mCpI (mPar μ) (mParA μ) 15))) := by
  refine Cv.of (cc := cX7_putsBack) (own := RX7) (nL := 2) (ret := none) (by decide +kernel) rfl rfl (Nat.le_of_ble_eq_true rfl) ?_
  intro p e s m args below meth c A Q H locs ls ha hAe hQ hx hb hml hr hts hown hlk hP hK hD hS hA hG hl
  have hh : Hd Γ p s m args c cX7_putsBack RX7 2 wsX7_putsBack A := ⟨⟨hx, hb, hml, hown, hts⟩, hK, hA, hG⟩
  have hl : lv_has ls 2 [(0, .ref (a b))] := hl
  refine lv_iconst (v := 0) hx hb dX7_putsBack_0 (by decide) ?_
  refine lv_istore_n (lv' := [(1, .int 0), (0, .ref (a b))]) hx hb dX7_putsBack_1 rfl hl (by decide) rfl (fun ls hl => ?_)
  have hJ_2 : ∀ n : Nat, ∀ (i : Nat) (x : Int32), (x = nI i) → (i ≤ 681) → (682 ≤ i + n) → ∀ (H : Heap) (locs : List Loc) (ls : Array Slot), va_P (gD Γ) vwCl (modW Γ a b ((mCpL (mNow μ) (mAside μ) i), (mAside μ), (mKept μ), (mKm μ), (mPar μ), (mParA μ), (mBef μ), (mUm μ), (mLow μ), (mHigh μ), (mNames μ), (mLen μ), (mText μ), (mPath μ), (mIdeal μ), (mSpot μ), (mWhich μ), (mNum μ))) H → va_D A (modW Γ a b ((mCpL (mNow μ) (mAside μ) i), (mAside μ), (mKept μ), (mKm μ), (mPar μ), (mParA μ), (mBef μ), (mUm μ), (mLow μ), (mHigh μ), (mNames μ), (mLen μ), (mText μ), (mPath μ), (mIdeal μ), (mSpot μ), (mWhich μ), (mNum μ))) → va_S A s.heap H locs → lv_has ls 2 [(0, .ref (a b)), (1, .int x)] → W p l e rm_X7_putsBack s m args below meth c H locs 0 0 Q (F0 m 2 ls []) := by
    intro n
    induction n with
    | zero =>
      intro i x ex hi hn
      intro _ h1 h2; omega
    | succ n ih =>
      intro i x ex hi hn H locs ls hP hD hS hl
      refine lv_iload_n hx hb dX7_putsBack_2 rfl (lv_at hl 1 rfl) ?_
      refine lv_sipush (v := 681) hx hb dX7_putsBack_3 (by decide) ?_
      refine lv_icmp_ge (tgt := 27) hx hb dX7_putsBack_6 (by decide) (fun c_6 => ?_) (fun c_6 => ?_)
      · -- yes
        have hiN : i = 681 := (by have q0 := c_6; rw [ex] at q0; rcases Nat.lt_or_ge i 681 with q | q; exact absurd q0 (nI_ge q (by decide)); omega)
        subst hiN
        refine lv_iconst (v := 0) hx hb dX7_putsBack_27 (by decide) ?_
        refine lv_istore_n (lv' := [(1, .int 0), (0, .ref (a b))]) hx hb dX7_putsBack_28 rfl hl (by decide) rfl (fun ls hl => ?_)
        have hJ_29 : ∀ n : Nat, ∀ (j : Nat) (z : Int32), (z = nI j) → (j ≤ 15) → (16 ≤ j + n) → ∀ (H : Heap) (locs : List Loc) (ls : Array Slot), va_P (gD Γ) vwCl (modW Γ a b ((mCpL (mNow μ) (mAside μ) 681), (mAside μ), (mKept μ), (mKm μ), (mCpI (mPar μ) (mParA μ) j), (mParA μ), (mBef μ), (mUm μ), (mLow μ), (mHigh μ), (mNames μ), (mLen μ), (mText μ), (mPath μ), (mIdeal μ), (mSpot μ), (mWhich μ), (mNum μ))) H → va_D A (modW Γ a b ((mCpL (mNow μ) (mAside μ) 681), (mAside μ), (mKept μ), (mKm μ), (mCpI (mPar μ) (mParA μ) j), (mParA μ), (mBef μ), (mUm μ), (mLow μ), (mHigh μ), (mNames μ), (mLen μ), (mText μ), (mPath μ), (mIdeal μ), (mSpot μ), (mWhich μ), (mNum μ))) → va_S A s.heap H locs → lv_has ls 2 [(0, .ref (a b)), (1, .int z)] → W p l e rm_X7_putsBack s m args below meth c H locs 0 0 Q (F0 m 29 ls []) := by
          intro n
          induction n with
          | zero =>
            intro j z ez hj hn
            intro _ h1 h2; omega
          | succ n ih =>
            intro j z ez hj hn H locs ls hP hD hS hl
            refine lv_iload_n hx hb dX7_putsBack_29 rfl (lv_at hl 1 rfl) ?_
            refine lv_bipush (v := 15) hx hb dX7_putsBack_30 (by decide) ?_
            refine lv_icmp_ge (tgt := 53) hx hb dX7_putsBack_32 (by decide) (fun c_32 => ?_) (fun c_32 => ?_)
            · -- yes
              exact re_v hQ ha hx hb hr hlk hAe hP hS dX7_putsBack_53 (by have hiN : j = 15 := (by have q0 := c_32; rw [ez] at q0; rcases Nat.lt_or_ge j 15 with q | q; exact absurd q0 (nI_ge q (by decide)); omega); subst hiN; rfl)
            · -- no
              refine lv_aload_n hx hb dX7_putsBack_35 rfl (lv_at hl 0 rfl) ?_
              refine va_get (D := gD Γ) (cl := vwCl) (tys := gTy Γ) (ci := 7) (v := .ref (a (b + 4))) (C := RX7) (T := TX7) (N := 18) hx hb hts iX7_putsBack_7 hown hK hP 0 rfl rfl 4 (Nat.le_of_ble_eq_true rfl) (hts (.fieldLink RX7 19 "DeadTimeLoopModel" "par" "[I") (List.mem_of_getElem? (i := 3) rfl)) (fun _ h9 => h9) rfl dX7_putsBack_36 ?_
              refine lv_iload_n hx hb dX7_putsBack_39 rfl (lv_at hl 1 rfl) ?_
              refine lv_aload_n hx hb dX7_putsBack_40 rfl (lv_at hl 0 rfl) ?_
              refine va_get (D := gD Γ) (cl := vwCl) (tys := gTy Γ) (ci := 7) (v := .ref (a (b + 5))) (C := RX7) (T := TX7) (N := 18) hx hb hts iX7_putsBack_7 hown hK hP 0 rfl rfl 5 (Nat.le_of_ble_eq_true rfl) (hts (.fieldLink RX7 23 "DeadTimeLoopModel" "parAside" "[I") (List.mem_of_getElem? (i := 4) rfl)) (fun _ h9 => h9) rfl dX7_putsBack_41 ?_
              refine lv_iload_n hx hb dX7_putsBack_44 rfl (lv_at hl 1 rfl) ?_
              refine ka_iald (D := gD Γ) (cl := vwCl) (tys := gTy Γ) hx hb hK hP 5 0 rfl rfl j ez (lt_of_nle (k := 15) (by rw [← ez]; exact c_32) (by omega) (by decide)) (by decide) (v := ((mParA μ) j)) rfl dX7_putsBack_45 ?_
              refine ka_iast (D := gD Γ) (cl := vwCl) (tys := gTy Γ) hx hb hK hP hD hS 4 0 rfl rfl j ez (lt_of_nle (k := 15) (by rw [← ez]; exact c_32) (by omega) (by decide)) (by decide) (wf := modW Γ a b ((mCpL (mNow μ) (mAside μ) 681), (mAside μ), (mKept μ), (mKm μ), (upd (mCpI (mPar μ) (mParA μ) j) j ((mParA μ) j)), (mParA μ), (mBef μ), (mUm μ), (mLow μ), (mHigh μ), (mNames μ), (mLen μ), (mText μ), (mPath μ), (mIdeal μ), (mSpot μ), (mWhich μ), (mNum μ))) rfl dX7_putsBack_46 (fun H locs hP hD hS => ?_)
              refine lv_iinc (v := (z + 1)) (lv' := [(1, .int (z + 1)), (0, .ref (a b))]) hx hb dX7_putsBack_47 hl (k := 1) rfl rfl (by decide) rfl (fun ls hl => ?_)
              refine lv_goto (tgt := 29) hx hb dX7_putsBack_50 (by decide) ?_
              exact ih (j + 1) _ (by rw [ez]; exact nI_1 j) (by have := lt_of_nle (i := j) (k := 15) (by rw [← ez]; exact c_32) (by omega) (by decide); omega) (by omega) _ _ _ hP hD hS (lv_sub hl [1, 0] rfl)
        exact hJ_29 16 0 0 rfl (by omega) (by omega) _ _ _ hP hD hS (lv_sub hl [1, 0] rfl)
      · -- no
        refine lv_aload_n hx hb dX7_putsBack_9 rfl (lv_at hl 0 rfl) ?_
        refine va_get (D := gD Γ) (cl := vwCl) (tys := gTy Γ) (ci := 7) (v := .ref (a (b + 1))) (C := RX7) (T := TX7) (N := 18) hx hb hts iX7_putsBack_7 hown hK hP 0 rfl rfl 0 (Nat.le_of_ble_eq_true rfl) (hts (.fieldLink RX7 7 "DeadTimeLoopModel" "now" "[J") (List.mem_of_getElem? (i := 1) rfl)) (fun _ h9 => h9) rfl dX7_putsBack_10 ?_
        refine lv_iload_n hx hb dX7_putsBack_13 rfl (lv_at hl 1 rfl) ?_
        refine lv_aload_n hx hb dX7_putsBack_14 rfl (lv_at hl 0 rfl) ?_
        refine va_get (D := gD Γ) (cl := vwCl) (tys := gTy Γ) (ci := 7) (v := .ref (a (b + 2))) (C := RX7) (T := TX7) (N := 18) hx hb hts iX7_putsBack_7 hown hK hP 0 rfl rfl 1 (Nat.le_of_ble_eq_true rfl) (hts (.fieldLink RX7 13 "DeadTimeLoopModel" "aside" "[J") (List.mem_of_getElem? (i := 2) rfl)) (fun _ h9 => h9) rfl dX7_putsBack_15 ?_
        refine lv_iload_n hx hb dX7_putsBack_18 rfl (lv_at hl 1 rfl) ?_
        refine ka_lald (D := gD Γ) (cl := vwCl) (tys := gTy Γ) hx hb hK hP 2 1 rfl rfl i ex (lt_of_nle (k := 681) (by rw [← ex]; exact c_6) (by omega) (by decide)) (by decide) (v := ((mAside μ) i)) rfl dX7_putsBack_19 ?_
        refine ka_last (D := gD Γ) (cl := vwCl) (tys := gTy Γ) hx hb hK hP hD hS 1 1 rfl rfl i ex (lt_of_nle (k := 681) (by rw [← ex]; exact c_6) (by omega) (by decide)) (by decide) (wf := modW Γ a b ((vp_updL (mCpL (mNow μ) (mAside μ) i) i ((mAside μ) i)), (mAside μ), (mKept μ), (mKm μ), (mPar μ), (mParA μ), (mBef μ), (mUm μ), (mLow μ), (mHigh μ), (mNames μ), (mLen μ), (mText μ), (mPath μ), (mIdeal μ), (mSpot μ), (mWhich μ), (mNum μ))) rfl dX7_putsBack_20 (fun H locs hP hD hS => ?_)
        refine lv_iinc (v := (x + 1)) (lv' := [(1, .int (x + 1)), (0, .ref (a b))]) hx hb dX7_putsBack_21 hl (k := 1) rfl rfl (by decide) rfl (fun ls hl => ?_)
        refine lv_goto (tgt := 2) hx hb dX7_putsBack_24 (by decide) ?_
        exact ih (i + 1) _ (by rw [ex]; exact nI_1 i) (by have := lt_of_nle (i := i) (k := 681) (by rw [← ex]; exact c_6) (by omega) (by decide); omega) (by omega) _ _ _ hP hD hS (lv_sub hl [1, 0] rfl)
  exact hJ_2 682 0 0 rfl (by omega) (by omega) _ _ _ hP hD hS (lv_sub hl [1, 0] rfl)
def rm_X7_keeps : Room := { frames := 0, cells := 0, slots := 0, locals := 0 }
theorem iX7_keeps_7 : ∀ w ∈ u_ws RX7 TX7 18, w ∈ wsX7_keeps := fun w h => (List.mem_cons_of_mem _ (List.mem_append_right _ h))
set_option maxHeartbeats 1000000 in
set_option maxRecDepth 100000 in
theorem c_X7_keeps (Γ : gT) (l : Launch) (a : Nat → Nat) (b : Nat) (μ : Mst) (hu : uOk (mUm μ)) : Cv Γ l yX7_keeps wsX7_keeps rm_X7_keeps [.ref (a b)] (modW Γ a b μ) (modW Γ a b (mPut_undoMany (mPut_before μ (mKeepB (mBef μ) (mPar μ) (mUm μ))) (mKpU (mUm μ) + 1))) := by
  refine Cv.of (cc := cX7_keeps) (own := RX7) (nL := 2) (ret := none) (by decide +kernel) rfl rfl (Nat.le_of_ble_eq_true rfl) ?_
  intro p e s m args below meth c A Q H locs ls ha hAe hQ hx hb hml hr hts hown hlk hP hK hD hS hA hG hl
  have hh : Hd Γ p s m args c cX7_keeps RX7 2 wsX7_keeps A := ⟨⟨hx, hb, hml, hown, hts⟩, hK, hA, hG⟩
  have hl : lv_has ls 2 [(0, .ref (a b))] := hl
  have hJ_48 : ∀ (B1 : Nat → Int32) (u1 : Int32), (B1 = mKpB (mBef μ) (mUm μ)) → (u1 = mKpU (mUm μ)) → (∃ U : Nat, U ≤ 5 ∧ u1 = nI U) → ∀ (H : Heap) (locs : List Loc) (ls : Array Slot), va_P (gD Γ) vwCl (modW Γ a b ((mNow μ), (mAside μ), (mKept μ), (mKm μ), (mPar μ), (mParA μ), B1, u1, (mLow μ), (mHigh μ), (mNames μ), (mLen μ), (mText μ), (mPath μ), (mIdeal μ), (mSpot μ), (mWhich μ), (mNum μ))) H → va_D A (modW Γ a b ((mNow μ), (mAside μ), (mKept μ), (mKm μ), (mPar μ), (mParA μ), B1, u1, (mLow μ), (mHigh μ), (mNames μ), (mLen μ), (mText μ), (mPath μ), (mIdeal μ), (mSpot μ), (mWhich μ), (mNum μ))) → va_S A s.heap H locs → lv_has ls 2 [(0, .ref (a b))] → W p l e rm_X7_keeps s m args below meth c H locs 0 0 Q (F0 m 48 ls []) := by
    intro B1 u1 eB e1 hU H locs ls hP hD hS hl
    obtain ⟨U, hU5, eU⟩ := hU
    refine lv_iconst (v := 0) hx hb dX7_keeps_48 (by decide) ?_
    refine lv_istore_n (lv' := [(1, .int 0), (0, .ref (a b))]) hx hb dX7_keeps_49 rfl hl (by decide) rfl (fun ls hl => ?_)
    have hJ_50 : ∀ n : Nat, ∀ (j : Nat) (z : Int32), (z = nI j) → (j ≤ 15) → (16 ≤ j + n) → ∀ (H : Heap) (locs : List Loc) (ls : Array Slot), va_P (gD Γ) vwCl (modW Γ a b ((mNow μ), (mAside μ), (mKept μ), (mKm μ), (mPar μ), (mParA μ), (mPutRow B1 (mPar μ) (15 * U) j), u1, (mLow μ), (mHigh μ), (mNames μ), (mLen μ), (mText μ), (mPath μ), (mIdeal μ), (mSpot μ), (mWhich μ), (mNum μ))) H → va_D A (modW Γ a b ((mNow μ), (mAside μ), (mKept μ), (mKm μ), (mPar μ), (mParA μ), (mPutRow B1 (mPar μ) (15 * U) j), u1, (mLow μ), (mHigh μ), (mNames μ), (mLen μ), (mText μ), (mPath μ), (mIdeal μ), (mSpot μ), (mWhich μ), (mNum μ))) → va_S A s.heap H locs → lv_has ls 2 [(0, .ref (a b)), (1, .int z)] → W p l e rm_X7_keeps s m args below meth c H locs 0 0 Q (F0 m 50 ls []) := by
      intro n
      induction n with
      | zero =>
        intro j z ez hj hn
        intro _ h1 h2; omega
      | succ n ih =>
        intro j z ez hj hn H locs ls hP hD hS hl
        refine lv_iload_n hx hb dX7_keeps_50 rfl (lv_at hl 1 rfl) ?_
        refine lv_bipush (v := 15) hx hb dX7_keeps_51 (by decide) ?_
        refine lv_icmp_ge (tgt := 82) hx hb dX7_keeps_53 (by decide) (fun c_53 => ?_) (fun c_53 => ?_)
        · -- yes
          refine lv_aload_n hx hb dX7_keeps_82 rfl (lv_at hl 0 rfl) ?_
          refine lv_dup hx hb dX7_keeps_83 rfl ?_
          refine va_get (D := gD Γ) (cl := vwCl) (tys := gTy Γ) (ci := 7) (v := .int u1) (C := RX7) (T := TX7) (N := 18) hx hb hts iX7_keeps_7 hown hK hP 0 rfl rfl 7 (Nat.le_of_ble_eq_true rfl) (hts (.fieldLink RX7 60 "DeadTimeLoopModel" "undoMany" "I") (List.mem_of_getElem? (i := 1) rfl)) (fun _ h9 => h9) rfl dX7_keeps_84 ?_
          refine lv_iconst (v := 1) hx hb dX7_keeps_87 (by decide) ?_
          refine lv_iadd hx hb dX7_keeps_88 ?_
          refine va_put (D := gD Γ) (cl := vwCl) (tys := gTy Γ) (ci := 7) (v := .int (u1 + 1)) (ty := tyX7 7) (C := RX7) (T := TX7) (N := 18) hx hb hts iX7_keeps_7 tyX7 tyX7_ok nmX7 hown hK hP hD hS 0 rfl rfl 7 (Nat.le_of_ble_eq_true rfl) (hts (.fieldLink RX7 60 "DeadTimeLoopModel" "undoMany" "I") (List.mem_of_getElem? (i := 1) rfl)) (fun _ h9 => h9) rfl (tyX7_ok 7 (Nat.le_of_ble_eq_true rfl)) rfl rfl (Nat.le_of_ble_eq_true rfl) dX7_keeps_89 (fun H locs hP hD hS => ?_)
          have hP : va_P (gD Γ) vwCl (modW Γ a b ((mNow μ), (mAside μ), (mKept μ), (mKm μ), (mPar μ), (mParA μ), (mPutRow B1 (mPar μ) (15 * U) j), (u1 + 1), (mLow μ), (mHigh μ), (mNames μ), (mLen μ), (mText μ), (mPath μ), (mIdeal μ), (mSpot μ), (mWhich μ), (mNum μ))) H := hP
          have hD : va_D A (modW Γ a b ((mNow μ), (mAside μ), (mKept μ), (mKm μ), (mPar μ), (mParA μ), (mPutRow B1 (mPar μ) (15 * U) j), (u1 + 1), (mLow μ), (mHigh μ), (mNames μ), (mLen μ), (mText μ), (mPath μ), (mIdeal μ), (mSpot μ), (mWhich μ), (mNum μ))) := hD
          exact re_v hQ ha hx hb hr hlk hAe hP hS dX7_keeps_92 (by have hiN : j = 15 := (by have q0 := c_53; rw [ez] at q0; rcases Nat.lt_or_ge j 15 with q | q; exact absurd q0 (nI_ge q (by decide)); omega); rw [hiN]; simp only [mPut_before, mPut_undoMany, mKeepB, ← eB, ← e1, show u1.toNatClampNeg = U from nI_of_place eU (by omega)])
        · -- no
          refine lv_aload_n hx hb dX7_keeps_56 rfl (lv_at hl 0 rfl) ?_
          refine va_get (D := gD Γ) (cl := vwCl) (tys := gTy Γ) (ci := 7) (v := .ref (a (b + 6))) (C := RX7) (T := TX7) (N := 18) hx hb hts iX7_keeps_7 hown hK hP 0 rfl rfl 6 (Nat.le_of_ble_eq_true rfl) (hts (.fieldLink RX7 26 "DeadTimeLoopModel" "before" "[I") (List.mem_of_getElem? (i := 2) rfl)) (fun _ h9 => h9) rfl dX7_keeps_57 ?_
          refine lv_bipush (v := 15) hx hb dX7_keeps_60 (by decide) ?_
          refine lv_aload_n hx hb dX7_keeps_62 rfl (lv_at hl 0 rfl) ?_
          refine va_get (D := gD Γ) (cl := vwCl) (tys := gTy Γ) (ci := 7) (v := .int u1) (C := RX7) (T := TX7) (N := 18) hx hb hts iX7_keeps_7 hown hK hP 0 rfl rfl 7 (Nat.le_of_ble_eq_true rfl) (hts (.fieldLink RX7 60 "DeadTimeLoopModel" "undoMany" "I") (List.mem_of_getElem? (i := 1) rfl)) (fun _ h9 => h9) rfl dX7_keeps_63 ?_
          refine lv_imul hx hb dX7_keeps_66 ?_
          refine lv_iload_n hx hb dX7_keeps_67 rfl (lv_at hl 1 rfl) ?_
          refine lv_iadd hx hb dX7_keeps_68 ?_
          refine lv_aload_n hx hb dX7_keeps_69 rfl (lv_at hl 0 rfl) ?_
          refine va_get (D := gD Γ) (cl := vwCl) (tys := gTy Γ) (ci := 7) (v := .ref (a (b + 4))) (C := RX7) (T := TX7) (N := 18) hx hb hts iX7_keeps_7 hown hK hP 0 rfl rfl 4 (Nat.le_of_ble_eq_true rfl) (hts (.fieldLink RX7 19 "DeadTimeLoopModel" "par" "[I") (List.mem_of_getElem? (i := 3) rfl)) (fun _ h9 => h9) rfl dX7_keeps_70 ?_
          refine lv_iload_n hx hb dX7_keeps_73 rfl (lv_at hl 1 rfl) ?_
          refine ka_iald (D := gD Γ) (cl := vwCl) (tys := gTy Γ) hx hb hK hP 4 0 rfl rfl j ez (lt_of_nle (k := 15) (by rw [← ez]; exact c_53) (by omega) (by decide)) (by decide) (v := ((mPar μ) j)) rfl dX7_keeps_74 ?_
          refine ka_iast (D := gD Γ) (cl := vwCl) (tys := gTy Γ) hx hb hK hP hD hS 6 0 rfl rfl (15 * U + j) (by rw [eU, ez]; exact keep_ix 15 U j) (by have := lt_of_nle (i := j) (k := 15) (by rw [← ez]; exact c_53) (by omega) (by decide); omega) (by decide) (wf := modW Γ a b ((mNow μ), (mAside μ), (mKept μ), (mKm μ), (mPar μ), (mParA μ), (upd (mPutRow B1 (mPar μ) (15 * U) j) (15 * U + j) ((mPar μ) j)), u1, (mLow μ), (mHigh μ), (mNames μ), (mLen μ), (mText μ), (mPath μ), (mIdeal μ), (mSpot μ), (mWhich μ), (mNum μ))) rfl dX7_keeps_75 (fun H locs hP hD hS => ?_)
          refine lv_iinc (v := (z + 1)) (lv' := [(1, .int (z + 1)), (0, .ref (a b))]) hx hb dX7_keeps_76 hl (k := 1) rfl rfl (by decide) rfl (fun ls hl => ?_)
          refine lv_goto (tgt := 50) hx hb dX7_keeps_79 (by decide) ?_
          exact ih (j + 1) _ (by rw [ez]; exact nI_1 j) (by have := lt_of_nle (i := j) (k := 15) (by rw [← ez]; exact c_53) (by omega) (by decide); omega) (by omega) _ _ _ hP hD hS (lv_sub hl [1, 0] rfl)
    exact hJ_50 16 0 0 rfl (by omega) (by omega) _ _ _ hP hD hS (lv_sub hl [1, 0] rfl)
  refine lv_aload_n hx hb dX7_keeps_0 rfl (lv_at hl 0 rfl) ?_
  refine va_get (D := gD Γ) (cl := vwCl) (tys := gTy Γ) (ci := 7) (v := .int (mUm μ)) (C := RX7) (T := TX7) (N := 18) hx hb hts iX7_keeps_7 hown hK hP 0 rfl rfl 7 (Nat.le_of_ble_eq_true rfl) (hts (.fieldLink RX7 60 "DeadTimeLoopModel" "undoMany" "I") (List.mem_of_getElem? (i := 1) rfl)) (fun _ h9 => h9) rfl dX7_keeps_1 ?_
  refine lv_bipush (v := 6) hx hb dX7_keeps_4 (by decide) ?_
  refine lv_icmp_ne (tgt := 48) hx hb dX7_keeps_6 (by decide) (fun c_6 => ?_) (fun c_6 => ?_)
  · -- yes
    exact hJ_48 (mBef μ) (mUm μ) (by first | rw [mKpB, if_neg c_6] | rw [mKpB, if_pos c_6, hiN]) (by first | rw [mKpU, if_neg c_6] | rw [mKpU, if_pos c_6]) (by first | exact ⟨5, by decide, by rw [c_6]; rfl⟩ | (obtain ⟨U, h1, h2⟩ := hu; refine ⟨U, ?_, h2⟩; rcases Nat.lt_or_ge U 6 with q | q; omega; exact absurd (h2.trans (show nI U = 6 from by rw [show U = 6 by omega]; rfl)) c_6)) _ _ _ hP hD hS (lv_sub hl [0] rfl)
  · -- no
    refine lv_iconst (v := 0) hx hb dX7_keeps_9 (by decide) ?_
    refine lv_istore_n (lv' := [(1, .int 0), (0, .ref (a b))]) hx hb dX7_keeps_10 rfl hl (by decide) rfl (fun ls hl => ?_)
    have hJ_11 : ∀ n : Nat, ∀ (i : Nat) (x : Int32), (x = nI i) → (i ≤ 75) → (76 ≤ i + n) → ∀ (H : Heap) (locs : List Loc) (ls : Array Slot), va_P (gD Γ) vwCl (modW Γ a b ((mNow μ), (mAside μ), (mKept μ), (mKm μ), (mPar μ), (mParA μ), (mSh (mBef μ) i), (mUm μ), (mLow μ), (mHigh μ), (mNames μ), (mLen μ), (mText μ), (mPath μ), (mIdeal μ), (mSpot μ), (mWhich μ), (mNum μ))) H → va_D A (modW Γ a b ((mNow μ), (mAside μ), (mKept μ), (mKm μ), (mPar μ), (mParA μ), (mSh (mBef μ) i), (mUm μ), (mLow μ), (mHigh μ), (mNames μ), (mLen μ), (mText μ), (mPath μ), (mIdeal μ), (mSpot μ), (mWhich μ), (mNum μ))) → va_S A s.heap H locs → lv_has ls 2 [(0, .ref (a b)), (1, .int x)] → W p l e rm_X7_keeps s m args below meth c H locs 0 0 Q (F0 m 11 ls []) := by
      intro n
      induction n with
      | zero =>
        intro i x ex hi hn
        intro _ h1 h2; omega
      | succ n ih =>
        intro i x ex hi hn H locs ls hP hD hS hl
        refine lv_iload_n hx hb dX7_keeps_11 rfl (lv_at hl 1 rfl) ?_
        refine lv_bipush (v := 75) hx hb dX7_keeps_12 (by decide) ?_
        refine lv_icmp_ge (tgt := 38) hx hb dX7_keeps_14 (by decide) (fun c_14 => ?_) (fun c_14 => ?_)
        · -- yes
          have hiN : i = 75 := (by have q0 := c_14; rw [ex] at q0; rcases Nat.lt_or_ge i 75 with q | q; exact absurd q0 (nI_ge q (by decide)); omega)
          refine lv_aload_n hx hb dX7_keeps_38 rfl (lv_at hl 0 rfl) ?_
          refine lv_dup hx hb dX7_keeps_39 rfl ?_
          refine va_get (D := gD Γ) (cl := vwCl) (tys := gTy Γ) (ci := 7) (v := .int (mUm μ)) (C := RX7) (T := TX7) (N := 18) hx hb hts iX7_keeps_7 hown hK hP 0 rfl rfl 7 (Nat.le_of_ble_eq_true rfl) (hts (.fieldLink RX7 60 "DeadTimeLoopModel" "undoMany" "I") (List.mem_of_getElem? (i := 1) rfl)) (fun _ h9 => h9) rfl dX7_keeps_40 ?_
          refine lv_iconst (v := 1) hx hb dX7_keeps_43 (by decide) ?_
          refine lv_isub hx hb dX7_keeps_44 ?_
          refine va_put (D := gD Γ) (cl := vwCl) (tys := gTy Γ) (ci := 7) (v := .int ((mUm μ) - 1)) (ty := tyX7 7) (C := RX7) (T := TX7) (N := 18) hx hb hts iX7_keeps_7 tyX7 tyX7_ok nmX7 hown hK hP hD hS 0 rfl rfl 7 (Nat.le_of_ble_eq_true rfl) (hts (.fieldLink RX7 60 "DeadTimeLoopModel" "undoMany" "I") (List.mem_of_getElem? (i := 1) rfl)) (fun _ h9 => h9) rfl (tyX7_ok 7 (Nat.le_of_ble_eq_true rfl)) rfl rfl (Nat.le_of_ble_eq_true rfl) dX7_keeps_45 (fun H locs hP hD hS => ?_)
          have hP : va_P (gD Γ) vwCl (modW Γ a b ((mNow μ), (mAside μ), (mKept μ), (mKm μ), (mPar μ), (mParA μ), (mSh (mBef μ) i), ((mUm μ) - 1), (mLow μ), (mHigh μ), (mNames μ), (mLen μ), (mText μ), (mPath μ), (mIdeal μ), (mSpot μ), (mWhich μ), (mNum μ))) H := hP
          have hD : va_D A (modW Γ a b ((mNow μ), (mAside μ), (mKept μ), (mKm μ), (mPar μ), (mParA μ), (mSh (mBef μ) i), ((mUm μ) - 1), (mLow μ), (mHigh μ), (mNames μ), (mLen μ), (mText μ), (mPath μ), (mIdeal μ), (mSpot μ), (mWhich μ), (mNum μ))) := hD
          exact hJ_48 (mSh (mBef μ) i) ((mUm μ) - 1) (by first | rw [mKpB, if_neg c_6] | rw [mKpB, if_pos c_6, hiN]) (by first | rw [mKpU, if_neg c_6] | rw [mKpU, if_pos c_6]) (by first | exact ⟨5, by decide, by rw [c_6]; rfl⟩ | (obtain ⟨U, h1, h2⟩ := hu; refine ⟨U, ?_, h2⟩; rcases Nat.lt_or_ge U 6 with q | q; omega; exact absurd (h2.trans (show nI U = 6 from by rw [show U = 6 by omega]; rfl)) c_6)) _ _ _ hP hD hS (lv_sub hl [0] rfl)
        · -- no
          refine lv_aload_n hx hb dX7_keeps_17 rfl (lv_at hl 0 rfl) ?_
          refine va_get (D := gD Γ) (cl := vwCl) (tys := gTy Γ) (ci := 7) (v := .ref (a (b + 6))) (C := RX7) (T := TX7) (N := 18) hx hb hts iX7_keeps_7 hown hK hP 0 rfl rfl 6 (Nat.le_of_ble_eq_true rfl) (hts (.fieldLink RX7 26 "DeadTimeLoopModel" "before" "[I") (List.mem_of_getElem? (i := 2) rfl)) (fun _ h9 => h9) rfl dX7_keeps_18 ?_
          refine lv_iload_n hx hb dX7_keeps_21 rfl (lv_at hl 1 rfl) ?_
          refine lv_aload_n hx hb dX7_keeps_22 rfl (lv_at hl 0 rfl) ?_
          refine va_get (D := gD Γ) (cl := vwCl) (tys := gTy Γ) (ci := 7) (v := .ref (a (b + 6))) (C := RX7) (T := TX7) (N := 18) hx hb hts iX7_keeps_7 hown hK hP 0 rfl rfl 6 (Nat.le_of_ble_eq_true rfl) (hts (.fieldLink RX7 26 "DeadTimeLoopModel" "before" "[I") (List.mem_of_getElem? (i := 2) rfl)) (fun _ h9 => h9) rfl dX7_keeps_23 ?_
          refine lv_bipush (v := 15) hx hb dX7_keeps_26 (by decide) ?_
          refine lv_iload_n hx hb dX7_keeps_28 rfl (lv_at hl 1 rfl) ?_
          refine lv_iadd hx hb dX7_keeps_29 ?_
          refine ka_iald (D := gD Γ) (cl := vwCl) (tys := gTy Γ) hx hb hK hP 6 0 rfl rfl (15 + i) (by rw [ex]; exact nI_add 15 i) (by have := lt_of_nle (i := i) (k := 75) (by rw [← ex]; exact c_14) (by omega) (by decide); omega) (by decide) (v := ((mSh (mBef μ) i) (15 + i))) rfl dX7_keeps_30 ?_
          refine ka_iast (D := gD Γ) (cl := vwCl) (tys := gTy Γ) hx hb hK hP hD hS 6 0 rfl rfl i ex (by have := lt_of_nle (i := i) (k := 75) (by rw [← ex]; exact c_14) (by omega) (by decide); omega) (by decide) (wf := modW Γ a b ((mNow μ), (mAside μ), (mKept μ), (mKm μ), (mPar μ), (mParA μ), (upd (mSh (mBef μ) i) i ((mSh (mBef μ) i) (15 + i))), (mUm μ), (mLow μ), (mHigh μ), (mNames μ), (mLen μ), (mText μ), (mPath μ), (mIdeal μ), (mSpot μ), (mWhich μ), (mNum μ))) rfl dX7_keeps_31 (fun H locs hP hD hS => ?_)
          refine lv_iinc (v := (x + 1)) (lv' := [(1, .int (x + 1)), (0, .ref (a b))]) hx hb dX7_keeps_32 hl (k := 1) rfl rfl (by decide) rfl (fun ls hl => ?_)
          refine lv_goto (tgt := 11) hx hb dX7_keeps_35 (by decide) ?_
          exact ih (i + 1) _ (by rw [ex]; exact nI_1 i) (by have := lt_of_nle (i := i) (k := 75) (by rw [← ex]; exact c_14) (by omega) (by decide); omega) (by omega) _ _ _ hP hD hS (lv_sub hl [1, 0] rfl)
    exact hJ_11 76 0 0 rfl (by omega) (by omega) _ _ _ hP hD hS (lv_sub hl [1, 0] rfl)
def rm_X7_setParameter : Room := { frames := 2, cells := 0, slots := 0, locals := 45 }
theorem iX7_setParameter_7 : ∀ w ∈ u_ws RX7 TX7 18, w ∈ wsX7_setParameter := fun w h => (List.mem_cons_of_mem _ (List.mem_append_right _ h))
set_option maxHeartbeats 1000000 in
set_option maxRecDepth 100000 in
theorem c_X7_setParameter (Γ : gT) (l : Launch) (a : Nat → Nat) (b : Nat) (μ : Mst) (k : Int32) (v : Int32) (hu : uOk (mUm μ)) : Ci Γ l yX7_setParameter wsX7_setParameter rm_X7_setParameter [.ref (a b), .int k, .int v] (modW Γ a b μ) (jSetParameter μ k v) (modW Γ a b (hSetParameter μ k v)) := by
  refine Ci.of (cc := cX7_setParameter) (own := RX7) (nL := 4) (ret := (some .int)) (by decide +kernel) rfl rfl (Nat.le_of_ble_eq_true rfl) ?_
  intro p e s m args below meth c A Q H locs ls ha hAe hQ hx hb hml hr hts hown hlk hP hK hD hS hA hG hl
  have hh : Hd Γ p s m args c cX7_setParameter RX7 4 wsX7_setParameter A := ⟨⟨hx, hb, hml, hown, hts⟩, hK, hA, hG⟩
  have hl : lv_has ls 4 [(0, .ref (a b)), (1, .int k), (2, .int v)] := hl
  refine lv_iload_n hx hb dX7_setParameter_0 rfl (lv_at hl 1 rfl) ?_
  refine ca_Si hh hl.1 (c_X7_isParameter Γ l k) (va_cwS 1 hts gX7_setParameter_X7_isParameter rfl rfl rfl (by decide +kernel) ⟨(Nat.le_of_ble_eq_true rfl), (Nat.le_of_ble_eq_true rfl)⟩) (As := [.int k]) (rest := []) rfl dX7_setParameter_1 rfl (Nat.le_of_ble_eq_true rfl) hP hD hS ⟨Nat.zero_le _, Nat.zero_le _⟩ (fun H locs hP hS => ?_)
  refine lv_if_eq (tgt := 29) hx hb dX7_setParameter_4 (by decide) (fun c_4 => ?_) (fun c_4 => ?_)
  · -- yes
    refine lv_ldc hx hb hown (hts (.constant RX7 74 (-2000000001)) (List.mem_of_getElem? (i := 3) rfl)) dX7_setParameter_29 ?_
    exact re_i hQ ha hx hb hr hlk hAe hP hS dX7_setParameter_31 (by simp only [jSetParameter, c_4, if_true, if_false]) (by simp only [hSetParameter, mKeeps, mPut_par, mPut_before, mPut_undoMany, c_4, if_true, if_false])
  · -- no
    refine lv_iload_n hx hb dX7_setParameter_7 rfl (lv_at hl 2 rfl) ?_
    refine lv_i2l (v := v.toInt64) hx hb dX7_setParameter_8 rfl ?_
    refine lv_aload_n hx hb dX7_setParameter_9 rfl (lv_at hl 0 rfl) ?_
    refine va_get (D := gD Γ) (cl := vwCl) (tys := gTy Γ) (ci := 7) (v := .ref (a (b + 7))) (C := RX7) (T := TX7) (N := 18) hx hb hts iX7_setParameter_7 hown hK hP 0 rfl rfl 8 (Nat.le_of_ble_eq_true rfl) (hts (.fieldLink RX7 29 "DeadTimeLoopModel" "low" "[I") (List.mem_of_getElem? (i := 1) rfl)) (fun _ h9 => h9) rfl dX7_setParameter_10 ?_
    refine lv_iload_n hx hb dX7_setParameter_13 rfl (lv_at hl 1 rfl) ?_
    refine ka_iald (D := gD Γ) (cl := vwCl) (tys := gTy Γ) hx hb hK hP 7 0 rfl rfl (k.toNatClampNeg) (nI_of_in (fPar_in c_4) (by decide)) (in_lt (fPar_in c_4)) (by decide) (v := ((mLow μ) k.toNatClampNeg)) rfl dX7_setParameter_14 ?_
    refine lv_i2l (v := ((mLow μ) k.toNatClampNeg).toInt64) hx hb dX7_setParameter_15 rfl ?_
    refine lv_aload_n hx hb dX7_setParameter_16 rfl (lv_at hl 0 rfl) ?_
    refine va_get (D := gD Γ) (cl := vwCl) (tys := gTy Γ) (ci := 7) (v := .ref (a (b + 8))) (C := RX7) (T := TX7) (N := 18) hx hb hts iX7_setParameter_7 hown hK hP 0 rfl rfl 9 (Nat.le_of_ble_eq_true rfl) (hts (.fieldLink RX7 32 "DeadTimeLoopModel" "high" "[I") (List.mem_of_getElem? (i := 2) rfl)) (fun _ h9 => h9) rfl dX7_setParameter_17 ?_
    refine lv_iload_n hx hb dX7_setParameter_20 rfl (lv_at hl 1 rfl) ?_
    refine ka_iald (D := gD Γ) (cl := vwCl) (tys := gTy Γ) hx hb hK hP 8 0 rfl rfl (k.toNatClampNeg) (nI_of_in (fPar_in c_4) (by decide)) (in_lt (fPar_in c_4)) (by decide) (v := ((mHigh μ) k.toNatClampNeg)) rfl dX7_setParameter_21 ?_
    refine lv_i2l (v := ((mHigh μ) k.toNatClampNeg).toInt64) hx hb dX7_setParameter_22 rfl ?_
    refine ca_Si hh hl.1 (c_X7_in Γ l (v.toInt64) (((mLow μ) k.toNatClampNeg).toInt64) (((mHigh μ) k.toNatClampNeg).toInt64)) (va_cwS 3 hts gX7_setParameter_X7_in rfl rfl rfl (by decide +kernel) ⟨(Nat.le_of_ble_eq_true rfl), (Nat.le_of_ble_eq_true rfl)⟩) (As := [.long (v.toInt64), .long (((mLow μ) k.toNatClampNeg).toInt64), .long (((mHigh μ) k.toNatClampNeg).toInt64)]) (rest := []) rfl dX7_setParameter_23 rfl (Nat.le_of_ble_eq_true rfl) hP hD hS ⟨Nat.zero_le _, Nat.zero_le _⟩ (fun H locs hP hS => ?_)
    refine lv_if_ne (tgt := 32) hx hb dX7_setParameter_26 (by decide) (fun c_26 => ?_) (fun c_26 => ?_)
    · -- yes
      refine lv_aload_n hx hb dX7_setParameter_32 rfl (lv_at hl 0 rfl) ?_
      obtain ⟨u_33, eu_33⟩ : ∃ z : Nat → Int32, z = mKeepB (mBef μ) (mPar μ) (mUm μ) := ⟨_, rfl⟩
      obtain ⟨u_33b, eu_33b⟩ : ∃ z : Int32, z = mKpU (mUm μ) + 1 := ⟨_, rfl⟩
      have hM_33 : Cv Γ l yX7_keeps wsX7_keeps rm_X7_keeps [.ref (a b)] (modW Γ a b μ) (modW Γ a b ((mNow μ), (mAside μ), (mKept μ), (mKm μ), (mPar μ), (mParA μ), u_33, u_33b, (mLow μ), (mHigh μ), (mNames μ), (mLen μ), (mText μ), (mPath μ), (mIdeal μ), (mSpot μ), (mWhich μ), (mNum μ))) := by rw [eu_33, eu_33b]; exact c_X7_keeps Γ l a b μ hu
      refine ca_Vva hh hl.1 hM_33 (cwV 0 hts gX7_setParameter_X7_keeps rfl rfl rfl (by decide +kernel) ⟨(Nat.le_of_ble_eq_true rfl), (Nat.le_of_ble_eq_true rfl)⟩) (As := []) (rest := []) rfl dX7_setParameter_33 rfl (Nat.le_of_ble_eq_true rfl) hP hD hS (q0 := 0) (ci := 7) rfl rfl rfl (wf := modW Γ a b ((mNow μ), (mAside μ), (mKept μ), (mKm μ), (mPar μ), (mParA μ), u_33, u_33b, (mLow μ), (mHigh μ), (mNames μ), (mLen μ), (mText μ), (mPath μ), (mIdeal μ), (mSpot μ), (mWhich μ), (mNum μ))) rfl ⟨Nat.zero_le _, Nat.zero_le _⟩ (fun H locs hP hD hS => ?_)
      refine lv_aload_n hx hb dX7_setParameter_36 rfl (lv_at hl 0 rfl) ?_
      refine va_get (D := gD Γ) (cl := vwCl) (tys := gTy Γ) (ci := 7) (v := .ref (a (b + 4))) (C := RX7) (T := TX7) (N := 18) hx hb hts iX7_setParameter_7 hown hK hP 0 rfl rfl 4 (Nat.le_of_ble_eq_true rfl) (hts (.fieldLink RX7 19 "DeadTimeLoopModel" "par" "[I") (List.mem_of_getElem? (i := 4) rfl)) (fun _ h9 => h9) rfl dX7_setParameter_37 ?_
      refine lv_iload_n hx hb dX7_setParameter_40 rfl (lv_at hl 1 rfl) ?_
      refine ka_iald (D := gD Γ) (cl := vwCl) (tys := gTy Γ) hx hb hK hP 4 0 rfl rfl (k.toNatClampNeg) (nI_of_in (fPar_in c_4) (by decide)) (in_lt (fPar_in c_4)) (by decide) (v := ((mPar μ) k.toNatClampNeg)) rfl dX7_setParameter_41 ?_
      refine lv_istore_n (lv' := [(3, .int ((mPar μ) k.toNatClampNeg)), (0, .ref (a b)), (1, .int k), (2, .int v)]) hx hb dX7_setParameter_42 rfl hl (by decide) rfl (fun ls hl => ?_)
      refine lv_aload_n hx hb dX7_setParameter_43 rfl (lv_at hl 1 rfl) ?_
      refine va_get (D := gD Γ) (cl := vwCl) (tys := gTy Γ) (ci := 7) (v := .ref (a (b + 4))) (C := RX7) (T := TX7) (N := 18) hx hb hts iX7_setParameter_7 hown hK hP 0 rfl rfl 4 (Nat.le_of_ble_eq_true rfl) (hts (.fieldLink RX7 19 "DeadTimeLoopModel" "par" "[I") (List.mem_of_getElem? (i := 4) rfl)) (fun _ h9 => h9) rfl dX7_setParameter_44 ?_
      refine lv_iload_n hx hb dX7_setParameter_47 rfl (lv_at hl 2 rfl) ?_
      refine lv_iload_n hx hb dX7_setParameter_48 rfl (lv_at hl 3 rfl) ?_
      refine ka_iast (D := gD Γ) (cl := vwCl) (tys := gTy Γ) hx hb hK hP hD hS 4 0 rfl rfl (k.toNatClampNeg) (nI_of_in (fPar_in c_4) (by decide)) (in_lt (fPar_in c_4)) (by decide) (wf := modW Γ a b ((mNow μ), (mAside μ), (mKept μ), (mKm μ), (upd (mPar μ) k.toNatClampNeg v), (mParA μ), u_33, u_33b, (mLow μ), (mHigh μ), (mNames μ), (mLen μ), (mText μ), (mPath μ), (mIdeal μ), (mSpot μ), (mWhich μ), (mNum μ))) rfl dX7_setParameter_49 (fun H locs hP hD hS => ?_)
      refine lv_iload_n hx hb dX7_setParameter_50 rfl (lv_at hl 0 rfl) ?_
      exact re_i hQ ha hx hb hr hlk hAe hP hS dX7_setParameter_51 (by simp only [jSetParameter, c_4, c_26, if_true, if_false]) (by simp only [hSetParameter, mKeeps, mPut_par, mPut_before, mPut_undoMany, ← eu_33, ← eu_33b, c_4, c_26, if_true, if_false])
    · -- no
      refine lv_ldc hx hb hown (hts (.constant RX7 74 (-2000000001)) (List.mem_of_getElem? (i := 3) rfl)) dX7_setParameter_29 ?_
      exact re_i hQ ha hx hb hr hlk hAe hP hS dX7_setParameter_31 (by simp only [jSetParameter, c_4, c_26, if_true, if_false]) (by simp only [hSetParameter, mKeeps, mPut_par, mPut_before, mPut_undoMany, c_4, c_26, if_true, if_false])
def rm_X7_parameter : Room := { frames := 2, cells := 0, slots := 0, locals := 45 }
theorem iX7_parameter_7 : ∀ w ∈ u_ws RX7 TX7 18, w ∈ wsX7_parameter := fun w h => (List.mem_cons_of_mem _ (List.mem_append_right _ h))
set_option maxHeartbeats 1000000 in
set_option maxRecDepth 100000 in
theorem c_X7_parameter (Γ : gT) (l : Launch) (a : Nat → Nat) (b : Nat) (μ : Mst) (k : Int32)  : Ci Γ l yX7_parameter wsX7_parameter rm_X7_parameter [.ref (a b), .int k] (modW Γ a b μ) (jParameter μ k) (modW Γ a b μ) := by
  refine Ci.of (cc := cX7_parameter) (own := RX7) (nL := 2) (ret := (some .int)) (by decide +kernel) rfl rfl (Nat.le_of_ble_eq_true rfl) ?_
  intro p e s m args below meth c A Q H locs ls ha hAe hQ hx hb hml hr hts hown hlk hP hK hD hS hA hG hl
  have hh : Hd Γ p s m args c cX7_parameter RX7 2 wsX7_parameter A := ⟨⟨hx, hb, hml, hown, hts⟩, hK, hA, hG⟩
  have hl : lv_has ls 2 [(0, .ref (a b)), (1, .int k)] := hl
  refine lv_iload_n hx hb dX7_parameter_0 rfl (lv_at hl 1 rfl) ?_
  refine ca_Si hh hl.1 (c_X7_isParameter Γ l k) (va_cwS 1 hts gX7_parameter_X7_isParameter rfl rfl rfl (by decide +kernel) ⟨(Nat.le_of_ble_eq_true rfl), (Nat.le_of_ble_eq_true rfl)⟩) (As := [.int k]) (rest := []) rfl dX7_parameter_1 rfl (Nat.le_of_ble_eq_true rfl) hP hD hS ⟨Nat.zero_le _, Nat.zero_le _⟩ (fun H locs hP hS => ?_)
  refine lv_if_eq (tgt := 16) hx hb dX7_parameter_4 (by decide) (fun c_4 => ?_) (fun c_4 => ?_)
  · -- yes
    refine lv_ldc hx hb hown (hts (.constant RX7 74 (-2000000001)) (List.mem_of_getElem? (i := 2) rfl)) dX7_parameter_16 ?_
    exact re_i hQ ha hx hb hr hlk hAe hP hS dX7_parameter_18 (by simp only [jParameter, c_4, if_true, if_false]) rfl
  · -- no
    refine lv_aload_n hx hb dX7_parameter_7 rfl (lv_at hl 0 rfl) ?_
    refine va_get (D := gD Γ) (cl := vwCl) (tys := gTy Γ) (ci := 7) (v := .ref (a (b + 4))) (C := RX7) (T := TX7) (N := 18) hx hb hts iX7_parameter_7 hown hK hP 0 rfl rfl 4 (Nat.le_of_ble_eq_true rfl) (hts (.fieldLink RX7 19 "DeadTimeLoopModel" "par" "[I") (List.mem_of_getElem? (i := 1) rfl)) (fun _ h9 => h9) rfl dX7_parameter_8 ?_
    refine lv_iload_n hx hb dX7_parameter_11 rfl (lv_at hl 1 rfl) ?_
    refine ka_iald (D := gD Γ) (cl := vwCl) (tys := gTy Γ) hx hb hK hP 4 0 rfl rfl (k.toNatClampNeg) (nI_of_in (fPar_in c_4) (by decide)) (in_lt (fPar_in c_4)) (by decide) (v := ((mPar μ) k.toNatClampNeg)) rfl dX7_parameter_12 ?_
    refine lv_goto (tgt := 18) hx hb dX7_parameter_13 (by decide) ?_
    exact re_i hQ ha hx hb hr hlk hAe hP hS dX7_parameter_18 (by simp only [jParameter, c_4, if_true, if_false]) rfl
def rm_X7_undo : Room := { frames := 0, cells := 0, slots := 0, locals := 0 }
theorem iX7_undo_7 : ∀ w ∈ u_ws RX7 TX7 18, w ∈ wsX7_undo := fun w h => (List.mem_cons_of_mem _ (List.mem_append_right _ h))
set_option maxHeartbeats 1000000 in
set_option maxRecDepth 100000 in
theorem c_X7_undo (Γ : gT) (l : Launch) (a : Nat → Nat) (b : Nat) (μ : Mst) (hu : uOk (mUm μ)) : Ci Γ l yX7_undo wsX7_undo rm_X7_undo [.ref (a b)] (modW Γ a b μ) (jUndo μ) (modW Γ a b (hUndo μ)) := by
  refine Ci.of (cc := cX7_undo) (own := RX7) (nL := 2) (ret := (some .int)) (by decide +kernel) rfl rfl (Nat.le_of_ble_eq_true rfl) ?_
  intro p e s m args below meth c A Q H locs ls ha hAe hQ hx hb hml hr hts hown hlk hP hK hD hS hA hG hl
  have hh : Hd Γ p s m args c cX7_undo RX7 2 wsX7_undo A := ⟨⟨hx, hb, hml, hown, hts⟩, hK, hA, hG⟩
  have hl : lv_has ls 2 [(0, .ref (a b))] := hl
  refine lv_aload_n hx hb dX7_undo_0 rfl (lv_at hl 0 rfl) ?_
  refine va_get (D := gD Γ) (cl := vwCl) (tys := gTy Γ) (ci := 7) (v := .int (mUm μ)) (C := RX7) (T := TX7) (N := 18) hx hb hts iX7_undo_7 hown hK hP 0 rfl rfl 7 (Nat.le_of_ble_eq_true rfl) (hts (.fieldLink RX7 60 "DeadTimeLoopModel" "undoMany" "I") (List.mem_of_getElem? (i := 1) rfl)) (fun _ h9 => h9) rfl dX7_undo_1 ?_
  refine lv_if_ne (tgt := 10) hx hb dX7_undo_4 (by decide) (fun c_4 => ?_) (fun c_4 => ?_)
  · -- yes
    obtain ⟨U, hU6, hU⟩ := hu
    have hU1 : 1 ≤ U := by rcases Nat.eq_zero_or_pos U with q | q; exact absurd (hU.trans (by rw [q]; rfl)) c_4; exact q
    have eU : mUm μ - 1 = nI (U - 1) := by rw [hU]; exact nI_pm hU1
    refine lv_aload_n hx hb dX7_undo_10 rfl (lv_at hl 0 rfl) ?_
    refine lv_dup hx hb dX7_undo_11 rfl ?_
    refine va_get (D := gD Γ) (cl := vwCl) (tys := gTy Γ) (ci := 7) (v := .int (mUm μ)) (C := RX7) (T := TX7) (N := 18) hx hb hts iX7_undo_7 hown hK hP 0 rfl rfl 7 (Nat.le_of_ble_eq_true rfl) (hts (.fieldLink RX7 60 "DeadTimeLoopModel" "undoMany" "I") (List.mem_of_getElem? (i := 1) rfl)) (fun _ h9 => h9) rfl dX7_undo_12 ?_
    refine lv_iconst (v := 1) hx hb dX7_undo_15 (by decide) ?_
    refine lv_isub hx hb dX7_undo_16 ?_
    refine va_put (D := gD Γ) (cl := vwCl) (tys := gTy Γ) (ci := 7) (v := .int ((mUm μ) - 1)) (ty := tyX7 7) (C := RX7) (T := TX7) (N := 18) hx hb hts iX7_undo_7 tyX7 tyX7_ok nmX7 hown hK hP hD hS 0 rfl rfl 7 (Nat.le_of_ble_eq_true rfl) (hts (.fieldLink RX7 60 "DeadTimeLoopModel" "undoMany" "I") (List.mem_of_getElem? (i := 1) rfl)) (fun _ h9 => h9) rfl (tyX7_ok 7 (Nat.le_of_ble_eq_true rfl)) rfl rfl (Nat.le_of_ble_eq_true rfl) dX7_undo_17 (fun H locs hP hD hS => ?_)
    have hP : va_P (gD Γ) vwCl (modW Γ a b ((mNow μ), (mAside μ), (mKept μ), (mKm μ), (mPar μ), (mParA μ), (mBef μ), ((mUm μ) - 1), (mLow μ), (mHigh μ), (mNames μ), (mLen μ), (mText μ), (mPath μ), (mIdeal μ), (mSpot μ), (mWhich μ), (mNum μ))) H := hP
    have hD : va_D A (modW Γ a b ((mNow μ), (mAside μ), (mKept μ), (mKm μ), (mPar μ), (mParA μ), (mBef μ), ((mUm μ) - 1), (mLow μ), (mHigh μ), (mNames μ), (mLen μ), (mText μ), (mPath μ), (mIdeal μ), (mSpot μ), (mWhich μ), (mNum μ))) := hD
    refine lv_iconst (v := 0) hx hb dX7_undo_20 (by decide) ?_
    refine lv_istore_n (lv' := [(1, .int 0), (0, .ref (a b))]) hx hb dX7_undo_21 rfl hl (by decide) rfl (fun ls hl => ?_)
    have hJ_22 : ∀ n : Nat, ∀ (i : Nat) (x : Int32), (x = nI i) → (i ≤ 15) → (16 ≤ i + n) → ∀ (H : Heap) (locs : List Loc) (ls : Array Slot), va_P (gD Γ) vwCl (modW Γ a b ((mNow μ), (mAside μ), (mKept μ), (mKm μ), (mGetRow (mPar μ) (mBef μ) (15 * (U - 1)) i), (mParA μ), (mBef μ), ((mUm μ) - 1), (mLow μ), (mHigh μ), (mNames μ), (mLen μ), (mText μ), (mPath μ), (mIdeal μ), (mSpot μ), (mWhich μ), (mNum μ))) H → va_D A (modW Γ a b ((mNow μ), (mAside μ), (mKept μ), (mKm μ), (mGetRow (mPar μ) (mBef μ) (15 * (U - 1)) i), (mParA μ), (mBef μ), ((mUm μ) - 1), (mLow μ), (mHigh μ), (mNames μ), (mLen μ), (mText μ), (mPath μ), (mIdeal μ), (mSpot μ), (mWhich μ), (mNum μ))) → va_S A s.heap H locs → lv_has ls 2 [(0, .ref (a b)), (1, .int x)] → W p l e rm_X7_undo s m args below meth c H locs 0 0 Q (F0 m 22 ls []) := by
      intro n
      induction n with
      | zero =>
        intro i x ex hi hn
        intro _ h1 h2; omega
      | succ n ih =>
        intro i x ex hi hn H locs ls hP hD hS hl
        refine lv_iload_n hx hb dX7_undo_22 rfl (lv_at hl 1 rfl) ?_
        refine lv_bipush (v := 15) hx hb dX7_undo_23 (by decide) ?_
        refine lv_icmp_ge (tgt := 54) hx hb dX7_undo_25 (by decide) (fun c_25 => ?_) (fun c_25 => ?_)
        · -- yes
          refine lv_aload_n hx hb dX7_undo_54 rfl (lv_at hl 0 rfl) ?_
          refine va_get (D := gD Γ) (cl := vwCl) (tys := gTy Γ) (ci := 7) (v := .int ((mUm μ) - 1)) (C := RX7) (T := TX7) (N := 18) hx hb hts iX7_undo_7 hown hK hP 0 rfl rfl 7 (Nat.le_of_ble_eq_true rfl) (hts (.fieldLink RX7 60 "DeadTimeLoopModel" "undoMany" "I") (List.mem_of_getElem? (i := 1) rfl)) (fun _ h9 => h9) rfl dX7_undo_55 ?_
          exact re_i hQ ha hx hb hr hlk hAe hP hS dX7_undo_58 (by simp only [jUndo, c_4, c_25, if_true, if_false]) (by have hiN : i = 15 := (by have q0 := c_25; rw [ex] at q0; rcases Nat.lt_or_ge i 15 with q | q; exact absurd q0 (nI_ge q (by decide)); omega); rw [hiN]; simp only [hUndo, mPut_par, mPut_undoMany, c_4, if_true, if_false, show (mUm μ - 1).toNatClampNeg = U - 1 from nI_of_place eU (by omega)])
        · -- no
          refine lv_aload_n hx hb dX7_undo_28 rfl (lv_at hl 0 rfl) ?_
          refine va_get (D := gD Γ) (cl := vwCl) (tys := gTy Γ) (ci := 7) (v := .ref (a (b + 4))) (C := RX7) (T := TX7) (N := 18) hx hb hts iX7_undo_7 hown hK hP 0 rfl rfl 4 (Nat.le_of_ble_eq_true rfl) (hts (.fieldLink RX7 19 "DeadTimeLoopModel" "par" "[I") (List.mem_of_getElem? (i := 3) rfl)) (fun _ h9 => h9) rfl dX7_undo_29 ?_
          refine lv_iload_n hx hb dX7_undo_32 rfl (lv_at hl 1 rfl) ?_
          refine lv_aload_n hx hb dX7_undo_33 rfl (lv_at hl 0 rfl) ?_
          refine va_get (D := gD Γ) (cl := vwCl) (tys := gTy Γ) (ci := 7) (v := .ref (a (b + 6))) (C := RX7) (T := TX7) (N := 18) hx hb hts iX7_undo_7 hown hK hP 0 rfl rfl 6 (Nat.le_of_ble_eq_true rfl) (hts (.fieldLink RX7 26 "DeadTimeLoopModel" "before" "[I") (List.mem_of_getElem? (i := 4) rfl)) (fun _ h9 => h9) rfl dX7_undo_34 ?_
          refine lv_bipush (v := 15) hx hb dX7_undo_37 (by decide) ?_
          refine lv_aload_n hx hb dX7_undo_39 rfl (lv_at hl 0 rfl) ?_
          refine va_get (D := gD Γ) (cl := vwCl) (tys := gTy Γ) (ci := 7) (v := .int ((mUm μ) - 1)) (C := RX7) (T := TX7) (N := 18) hx hb hts iX7_undo_7 hown hK hP 0 rfl rfl 7 (Nat.le_of_ble_eq_true rfl) (hts (.fieldLink RX7 60 "DeadTimeLoopModel" "undoMany" "I") (List.mem_of_getElem? (i := 1) rfl)) (fun _ h9 => h9) rfl dX7_undo_40 ?_
          refine lv_imul hx hb dX7_undo_43 ?_
          refine lv_iload_n hx hb dX7_undo_44 rfl (lv_at hl 1 rfl) ?_
          refine lv_iadd hx hb dX7_undo_45 ?_
          refine ka_iald (D := gD Γ) (cl := vwCl) (tys := gTy Γ) hx hb hK hP 6 0 rfl rfl (15 * (U - 1) + i) (by rw [eU, ex]; exact keep_ix 15 (U - 1) i) (by have := lt_of_nle (i := i) (k := 15) (by rw [← ex]; exact c_25) (by omega) (by decide); omega) (by decide) (v := ((mBef μ) (15 * (U - 1) + i))) rfl dX7_undo_46 ?_
          refine ka_iast (D := gD Γ) (cl := vwCl) (tys := gTy Γ) hx hb hK hP hD hS 4 0 rfl rfl i ex (lt_of_nle (k := 15) (by rw [← ex]; exact c_25) (by omega) (by decide)) (by decide) (wf := modW Γ a b ((mNow μ), (mAside μ), (mKept μ), (mKm μ), (upd (mGetRow (mPar μ) (mBef μ) (15 * (U - 1)) i) i ((mBef μ) (15 * (U - 1) + i))), (mParA μ), (mBef μ), ((mUm μ) - 1), (mLow μ), (mHigh μ), (mNames μ), (mLen μ), (mText μ), (mPath μ), (mIdeal μ), (mSpot μ), (mWhich μ), (mNum μ))) rfl dX7_undo_47 (fun H locs hP hD hS => ?_)
          refine lv_iinc (v := (x + 1)) (lv' := [(1, .int (x + 1)), (0, .ref (a b))]) hx hb dX7_undo_48 hl (k := 1) rfl rfl (by decide) rfl (fun ls hl => ?_)
          refine lv_goto (tgt := 22) hx hb dX7_undo_51 (by decide) ?_
          exact ih (i + 1) _ (by rw [ex]; exact nI_1 i) (by have := lt_of_nle (i := i) (k := 15) (by rw [← ex]; exact c_25) (by omega) (by decide); omega) (by omega) _ _ _ hP hD hS (lv_sub hl [1, 0] rfl)
    exact hJ_22 16 0 0 rfl (by omega) (by omega) _ _ _ hP hD hS (lv_sub hl [1, 0] rfl)
  · -- no
    refine lv_ldc hx hb hown (hts (.constant RX7 83 (-2000000002)) (List.mem_of_getElem? (i := 2) rfl)) dX7_undo_7 ?_
    exact re_i hQ ha hx hb hr hlk hAe hP hS dX7_undo_9 (by simp only [jUndo, c_4, if_true, if_false]) (by simp only [hUndo, c_4, if_true, if_false])
def rm_X7_setSetpoint : Room := { frames := 1, cells := 0, slots := 0, locals := 25 }
theorem iX7_setSetpoint_7 : ∀ w ∈ u_ws RX7 TX7 18, w ∈ wsX7_setSetpoint := fun w h => (List.mem_cons_of_mem _ (List.mem_append_right _ h))
set_option maxHeartbeats 1000000 in
set_option maxRecDepth 100000 in
theorem c_X7_setSetpoint (Γ : gT) (l : Launch) (a : Nat → Nat) (b : Nat) (μ : Mst) (v : Int32)  : Ci Γ l yX7_setSetpoint wsX7_setSetpoint rm_X7_setSetpoint [.ref (a b), .int v] (modW Γ a b μ) (jSetSetpoint μ v) (modW Γ a b (hSetSetpoint μ v)) := by
  refine Ci.of (cc := cX7_setSetpoint) (own := RX7) (nL := 3) (ret := (some .int)) (by decide +kernel) rfl rfl (Nat.le_of_ble_eq_true rfl) ?_
  intro p e s m args below meth c A Q H locs ls ha hAe hQ hx hb hml hr hts hown hlk hP hK hD hS hA hG hl
  have hh : Hd Γ p s m args c cX7_setSetpoint RX7 3 wsX7_setSetpoint A := ⟨⟨hx, hb, hml, hown, hts⟩, hK, hA, hG⟩
  have hl : lv_has ls 3 [(0, .ref (a b)), (1, .int v)] := hl
  refine lv_iload_n hx hb dX7_setSetpoint_0 rfl (lv_at hl 1 rfl) ?_
  refine lv_i2l (v := v.toInt64) hx hb dX7_setSetpoint_1 rfl ?_
  refine lv_ldc2 hx hb hown (hts (.constantLong RX7 84 (-100000)) (List.mem_of_getElem? (i := 1) rfl)) dX7_setSetpoint_2 ?_
  refine lv_ldc2 hx hb hown (hts (.constantLong RX7 86 (100000)) (List.mem_of_getElem? (i := 2) rfl)) dX7_setSetpoint_5 ?_
  refine ca_Si hh hl.1 (c_X7_in Γ l (v.toInt64) (-100000) 100000) (va_cwS 3 hts gX7_setSetpoint_X7_in rfl rfl rfl (by decide +kernel) ⟨(Nat.le_of_ble_eq_true rfl), (Nat.le_of_ble_eq_true rfl)⟩) (As := [.long (v.toInt64), .long (-100000), .long 100000]) (rest := []) rfl dX7_setSetpoint_8 rfl (Nat.le_of_ble_eq_true rfl) hP hD hS ⟨Nat.zero_le _, Nat.zero_le _⟩ (fun H locs hP hS => ?_)
  refine lv_if_ne (tgt := 17) hx hb dX7_setSetpoint_11 (by decide) (fun c_11 => ?_) (fun c_11 => ?_)
  · -- yes
    refine lv_aload_n hx hb dX7_setSetpoint_17 rfl (lv_at hl 0 rfl) ?_
    refine va_get (D := gD Γ) (cl := vwCl) (tys := gTy Γ) (ci := 7) (v := .ref (a (b + 1))) (C := RX7) (T := TX7) (N := 18) hx hb hts iX7_setSetpoint_7 hown hK hP 0 rfl rfl 0 (Nat.le_of_ble_eq_true rfl) (hts (.fieldLink RX7 7 "DeadTimeLoopModel" "now" "[J") (List.mem_of_getElem? (i := 4) rfl)) (fun _ h9 => h9) rfl dX7_setSetpoint_18 ?_
    refine lv_sipush (v := 641) hx hb dX7_setSetpoint_21 (by decide) ?_
    refine ka_lald (D := gD Γ) (cl := vwCl) (tys := gTy Γ) hx hb hK hP 1 1 rfl rfl 641 (by decide) (by decide) (by decide) (v := ((mNow μ) 641)) rfl dX7_setSetpoint_24 ?_
    refine lv_l2i (v := ((mNow μ) 641).toInt32) hx hb dX7_setSetpoint_25 rfl ?_
    refine lv_istore_n (lv' := [(2, .int (((mNow μ) 641).toInt32)), (0, .ref (a b)), (1, .int v)]) hx hb dX7_setSetpoint_26 rfl hl (by decide) rfl (fun ls hl => ?_)
    refine lv_aload_n hx hb dX7_setSetpoint_27 rfl (lv_at hl 1 rfl) ?_
    refine va_get (D := gD Γ) (cl := vwCl) (tys := gTy Γ) (ci := 7) (v := .ref (a (b + 1))) (C := RX7) (T := TX7) (N := 18) hx hb hts iX7_setSetpoint_7 hown hK hP 0 rfl rfl 0 (Nat.le_of_ble_eq_true rfl) (hts (.fieldLink RX7 7 "DeadTimeLoopModel" "now" "[J") (List.mem_of_getElem? (i := 4) rfl)) (fun _ h9 => h9) rfl dX7_setSetpoint_28 ?_
    refine lv_sipush (v := 641) hx hb dX7_setSetpoint_31 (by decide) ?_
    refine lv_iload_n hx hb dX7_setSetpoint_34 rfl (lv_at hl 2 rfl) ?_
    refine lv_i2l (v := v.toInt64) hx hb dX7_setSetpoint_35 rfl ?_
    refine ka_last (D := gD Γ) (cl := vwCl) (tys := gTy Γ) hx hb hK hP hD hS 1 1 rfl rfl 641 (by decide) (by decide) (by decide) (wf := modW Γ a b ((vp_updL (mNow μ) 641 (v.toInt64)), (mAside μ), (mKept μ), (mKm μ), (mPar μ), (mParA μ), (mBef μ), (mUm μ), (mLow μ), (mHigh μ), (mNames μ), (mLen μ), (mText μ), (mPath μ), (mIdeal μ), (mSpot μ), (mWhich μ), (mNum μ))) rfl dX7_setSetpoint_36 (fun H locs hP hD hS => ?_)
    refine lv_aload_n hx hb dX7_setSetpoint_37 rfl (lv_at hl 1 rfl) ?_
    refine va_get (D := gD Γ) (cl := vwCl) (tys := gTy Γ) (ci := 7) (v := .ref (a (b + 1))) (C := RX7) (T := TX7) (N := 18) hx hb hts iX7_setSetpoint_7 hown hK hP 0 rfl rfl 0 (Nat.le_of_ble_eq_true rfl) (hts (.fieldLink RX7 7 "DeadTimeLoopModel" "now" "[J") (List.mem_of_getElem? (i := 4) rfl)) (fun _ h9 => h9) rfl dX7_setSetpoint_38 ?_
    refine lv_sipush (v := 655) hx hb dX7_setSetpoint_41 (by decide) ?_
    refine lv_iload_n hx hb dX7_setSetpoint_44 rfl (lv_at hl 0 rfl) ?_
    refine lv_i2l (v := (((mNow μ) 641).toInt32).toInt64) hx hb dX7_setSetpoint_45 rfl ?_
    refine ka_last (D := gD Γ) (cl := vwCl) (tys := gTy Γ) hx hb hK hP hD hS 1 1 rfl rfl 655 (by decide) (by decide) (by decide) (wf := modW Γ a b ((vp_updL (vp_updL (mNow μ) 641 (v.toInt64)) 655 ((((mNow μ) 641).toInt32).toInt64)), (mAside μ), (mKept μ), (mKm μ), (mPar μ), (mParA μ), (mBef μ), (mUm μ), (mLow μ), (mHigh μ), (mNames μ), (mLen μ), (mText μ), (mPath μ), (mIdeal μ), (mSpot μ), (mWhich μ), (mNum μ))) rfl dX7_setSetpoint_46 (fun H locs hP hD hS => ?_)
    refine lv_aload_n hx hb dX7_setSetpoint_47 rfl (lv_at hl 1 rfl) ?_
    refine va_get (D := gD Γ) (cl := vwCl) (tys := gTy Γ) (ci := 7) (v := .ref (a (b + 1))) (C := RX7) (T := TX7) (N := 18) hx hb hts iX7_setSetpoint_7 hown hK hP 0 rfl rfl 0 (Nat.le_of_ble_eq_true rfl) (hts (.fieldLink RX7 7 "DeadTimeLoopModel" "now" "[J") (List.mem_of_getElem? (i := 4) rfl)) (fun _ h9 => h9) rfl dX7_setSetpoint_48 ?_
    refine lv_sipush (v := 656) hx hb dX7_setSetpoint_51 (by decide) ?_
    refine lv_lconst (v := 0) hx hb dX7_setSetpoint_54 (by decide) ?_
    refine ka_last (D := gD Γ) (cl := vwCl) (tys := gTy Γ) hx hb hK hP hD hS 1 1 rfl rfl 656 (by decide) (by decide) (by decide) (wf := modW Γ a b ((vp_updL (vp_updL (vp_updL (mNow μ) 641 (v.toInt64)) 655 ((((mNow μ) 641).toInt32).toInt64)) 656 0), (mAside μ), (mKept μ), (mKm μ), (mPar μ), (mParA μ), (mBef μ), (mUm μ), (mLow μ), (mHigh μ), (mNames μ), (mLen μ), (mText μ), (mPath μ), (mIdeal μ), (mSpot μ), (mWhich μ), (mNum μ))) rfl dX7_setSetpoint_55 (fun H locs hP hD hS => ?_)
    refine lv_aload_n hx hb dX7_setSetpoint_56 rfl (lv_at hl 1 rfl) ?_
    refine va_get (D := gD Γ) (cl := vwCl) (tys := gTy Γ) (ci := 7) (v := .ref (a (b + 1))) (C := RX7) (T := TX7) (N := 18) hx hb hts iX7_setSetpoint_7 hown hK hP 0 rfl rfl 0 (Nat.le_of_ble_eq_true rfl) (hts (.fieldLink RX7 7 "DeadTimeLoopModel" "now" "[J") (List.mem_of_getElem? (i := 4) rfl)) (fun _ h9 => h9) rfl dX7_setSetpoint_57 ?_
    refine lv_sipush (v := 657) hx hb dX7_setSetpoint_60 (by decide) ?_
    refine lv_lconst (v := 0) hx hb dX7_setSetpoint_63 (by decide) ?_
    refine ka_last (D := gD Γ) (cl := vwCl) (tys := gTy Γ) hx hb hK hP hD hS 1 1 rfl rfl 657 (by decide) (by decide) (by decide) (wf := modW Γ a b ((vp_updL (vp_updL (vp_updL (vp_updL (mNow μ) 641 (v.toInt64)) 655 ((((mNow μ) 641).toInt32).toInt64)) 656 0) 657 0), (mAside μ), (mKept μ), (mKm μ), (mPar μ), (mParA μ), (mBef μ), (mUm μ), (mLow μ), (mHigh μ), (mNames μ), (mLen μ), (mText μ), (mPath μ), (mIdeal μ), (mSpot μ), (mWhich μ), (mNum μ))) rfl dX7_setSetpoint_64 (fun H locs hP hD hS => ?_)
    refine lv_aload_n hx hb dX7_setSetpoint_65 rfl (lv_at hl 1 rfl) ?_
    refine va_get (D := gD Γ) (cl := vwCl) (tys := gTy Γ) (ci := 7) (v := .ref (a (b + 1))) (C := RX7) (T := TX7) (N := 18) hx hb hts iX7_setSetpoint_7 hown hK hP 0 rfl rfl 0 (Nat.le_of_ble_eq_true rfl) (hts (.fieldLink RX7 7 "DeadTimeLoopModel" "now" "[J") (List.mem_of_getElem? (i := 4) rfl)) (fun _ h9 => h9) rfl dX7_setSetpoint_66 ?_
    refine lv_sipush (v := 658) hx hb dX7_setSetpoint_69 (by decide) ?_
    refine lv_lconst (v := 0) hx hb dX7_setSetpoint_72 (by decide) ?_
    refine ka_last (D := gD Γ) (cl := vwCl) (tys := gTy Γ) hx hb hK hP hD hS 1 1 rfl rfl 658 (by decide) (by decide) (by decide) (wf := modW Γ a b ((vp_updL (vp_updL (vp_updL (vp_updL (vp_updL (mNow μ) 641 (v.toInt64)) 655 ((((mNow μ) 641).toInt32).toInt64)) 656 0) 657 0) 658 0), (mAside μ), (mKept μ), (mKm μ), (mPar μ), (mParA μ), (mBef μ), (mUm μ), (mLow μ), (mHigh μ), (mNames μ), (mLen μ), (mText μ), (mPath μ), (mIdeal μ), (mSpot μ), (mWhich μ), (mNum μ))) rfl dX7_setSetpoint_73 (fun H locs hP hD hS => ?_)
    refine lv_aload_n hx hb dX7_setSetpoint_74 rfl (lv_at hl 1 rfl) ?_
    refine va_get (D := gD Γ) (cl := vwCl) (tys := gTy Γ) (ci := 7) (v := .ref (a (b + 1))) (C := RX7) (T := TX7) (N := 18) hx hb hts iX7_setSetpoint_7 hown hK hP 0 rfl rfl 0 (Nat.le_of_ble_eq_true rfl) (hts (.fieldLink RX7 7 "DeadTimeLoopModel" "now" "[J") (List.mem_of_getElem? (i := 4) rfl)) (fun _ h9 => h9) rfl dX7_setSetpoint_75 ?_
    refine lv_sipush (v := 659) hx hb dX7_setSetpoint_78 (by decide) ?_
    refine lv_lconst (v := 0) hx hb dX7_setSetpoint_81 (by decide) ?_
    refine ka_last (D := gD Γ) (cl := vwCl) (tys := gTy Γ) hx hb hK hP hD hS 1 1 rfl rfl 659 (by decide) (by decide) (by decide) (wf := modW Γ a b ((vp_updL (vp_updL (vp_updL (vp_updL (vp_updL (vp_updL (mNow μ) 641 (v.toInt64)) 655 ((((mNow μ) 641).toInt32).toInt64)) 656 0) 657 0) 658 0) 659 0), (mAside μ), (mKept μ), (mKm μ), (mPar μ), (mParA μ), (mBef μ), (mUm μ), (mLow μ), (mHigh μ), (mNames μ), (mLen μ), (mText μ), (mPath μ), (mIdeal μ), (mSpot μ), (mWhich μ), (mNum μ))) rfl dX7_setSetpoint_82 (fun H locs hP hD hS => ?_)
    refine lv_iload_n hx hb dX7_setSetpoint_83 rfl (lv_at hl 0 rfl) ?_
    exact re_i hQ ha hx hb hr hlk hAe hP hS dX7_setSetpoint_84 (by simp only [jSetSetpoint, c_11, if_true, if_false]) (by simp only [hSetSetpoint, mSetRow, mPut_now, c_11, if_true, if_false])
  · -- no
    refine lv_ldc hx hb hown (hts (.constant RX7 74 (-2000000001)) (List.mem_of_getElem? (i := 3) rfl)) dX7_setSetpoint_14 ?_
    exact re_i hQ ha hx hb hr hlk hAe hP hS dX7_setSetpoint_16 (by simp only [jSetSetpoint, c_11, if_true, if_false]) (by simp only [hSetSetpoint, mSetRow, mPut_now, c_11, if_true, if_false])
def rm_X7_setLoad : Room := { frames := 1, cells := 0, slots := 0, locals := 25 }
theorem iX7_setLoad_7 : ∀ w ∈ u_ws RX7 TX7 18, w ∈ wsX7_setLoad := fun w h => (List.mem_cons_of_mem _ (List.mem_append_right _ h))
set_option maxHeartbeats 1000000 in
set_option maxRecDepth 100000 in
theorem c_X7_setLoad (Γ : gT) (l : Launch) (a : Nat → Nat) (b : Nat) (μ : Mst) (v : Int32)  : Ci Γ l yX7_setLoad wsX7_setLoad rm_X7_setLoad [.ref (a b), .int v] (modW Γ a b μ) (jSetLoad μ v) (modW Γ a b (hSetLoad μ v)) := by
  refine Ci.of (cc := cX7_setLoad) (own := RX7) (nL := 3) (ret := (some .int)) (by decide +kernel) rfl rfl (Nat.le_of_ble_eq_true rfl) ?_
  intro p e s m args below meth c A Q H locs ls ha hAe hQ hx hb hml hr hts hown hlk hP hK hD hS hA hG hl
  have hh : Hd Γ p s m args c cX7_setLoad RX7 3 wsX7_setLoad A := ⟨⟨hx, hb, hml, hown, hts⟩, hK, hA, hG⟩
  have hl : lv_has ls 3 [(0, .ref (a b)), (1, .int v)] := hl
  refine lv_iload_n hx hb dX7_setLoad_0 rfl (lv_at hl 1 rfl) ?_
  refine lv_i2l (v := v.toInt64) hx hb dX7_setLoad_1 rfl ?_
  refine lv_ldc2 hx hb hown (hts (.constantLong RX7 84 (-100000)) (List.mem_of_getElem? (i := 1) rfl)) dX7_setLoad_2 ?_
  refine lv_ldc2 hx hb hown (hts (.constantLong RX7 86 (100000)) (List.mem_of_getElem? (i := 2) rfl)) dX7_setLoad_5 ?_
  refine ca_Si hh hl.1 (c_X7_in Γ l (v.toInt64) (-100000) 100000) (va_cwS 3 hts gX7_setLoad_X7_in rfl rfl rfl (by decide +kernel) ⟨(Nat.le_of_ble_eq_true rfl), (Nat.le_of_ble_eq_true rfl)⟩) (As := [.long (v.toInt64), .long (-100000), .long 100000]) (rest := []) rfl dX7_setLoad_8 rfl (Nat.le_of_ble_eq_true rfl) hP hD hS ⟨Nat.zero_le _, Nat.zero_le _⟩ (fun H locs hP hS => ?_)
  refine lv_if_ne (tgt := 17) hx hb dX7_setLoad_11 (by decide) (fun c_11 => ?_) (fun c_11 => ?_)
  · -- yes
    refine lv_aload_n hx hb dX7_setLoad_17 rfl (lv_at hl 0 rfl) ?_
    refine va_get (D := gD Γ) (cl := vwCl) (tys := gTy Γ) (ci := 7) (v := .ref (a (b + 1))) (C := RX7) (T := TX7) (N := 18) hx hb hts iX7_setLoad_7 hown hK hP 0 rfl rfl 0 (Nat.le_of_ble_eq_true rfl) (hts (.fieldLink RX7 7 "DeadTimeLoopModel" "now" "[J") (List.mem_of_getElem? (i := 4) rfl)) (fun _ h9 => h9) rfl dX7_setLoad_18 ?_
    refine lv_sipush (v := 642) hx hb dX7_setLoad_21 (by decide) ?_
    refine ka_lald (D := gD Γ) (cl := vwCl) (tys := gTy Γ) hx hb hK hP 1 1 rfl rfl 642 (by decide) (by decide) (by decide) (v := ((mNow μ) 642)) rfl dX7_setLoad_24 ?_
    refine lv_l2i (v := ((mNow μ) 642).toInt32) hx hb dX7_setLoad_25 rfl ?_
    refine lv_istore_n (lv' := [(2, .int (((mNow μ) 642).toInt32)), (0, .ref (a b)), (1, .int v)]) hx hb dX7_setLoad_26 rfl hl (by decide) rfl (fun ls hl => ?_)
    refine lv_aload_n hx hb dX7_setLoad_27 rfl (lv_at hl 1 rfl) ?_
    refine va_get (D := gD Γ) (cl := vwCl) (tys := gTy Γ) (ci := 7) (v := .ref (a (b + 1))) (C := RX7) (T := TX7) (N := 18) hx hb hts iX7_setLoad_7 hown hK hP 0 rfl rfl 0 (Nat.le_of_ble_eq_true rfl) (hts (.fieldLink RX7 7 "DeadTimeLoopModel" "now" "[J") (List.mem_of_getElem? (i := 4) rfl)) (fun _ h9 => h9) rfl dX7_setLoad_28 ?_
    refine lv_sipush (v := 642) hx hb dX7_setLoad_31 (by decide) ?_
    refine lv_iload_n hx hb dX7_setLoad_34 rfl (lv_at hl 2 rfl) ?_
    refine lv_i2l (v := v.toInt64) hx hb dX7_setLoad_35 rfl ?_
    refine ka_last (D := gD Γ) (cl := vwCl) (tys := gTy Γ) hx hb hK hP hD hS 1 1 rfl rfl 642 (by decide) (by decide) (by decide) (wf := modW Γ a b ((vp_updL (mNow μ) 642 (v.toInt64)), (mAside μ), (mKept μ), (mKm μ), (mPar μ), (mParA μ), (mBef μ), (mUm μ), (mLow μ), (mHigh μ), (mNames μ), (mLen μ), (mText μ), (mPath μ), (mIdeal μ), (mSpot μ), (mWhich μ), (mNum μ))) rfl dX7_setLoad_36 (fun H locs hP hD hS => ?_)
    refine lv_iload_n hx hb dX7_setLoad_37 rfl (lv_at hl 0 rfl) ?_
    exact re_i hQ ha hx hb hr hlk hAe hP hS dX7_setLoad_38 (by simp only [jSetLoad, c_11, if_true, if_false]) (by simp only [hSetLoad, mPut_now, c_11, if_true, if_false])
  · -- no
    refine lv_ldc hx hb hown (hts (.constant RX7 74 (-2000000001)) (List.mem_of_getElem? (i := 3) rfl)) dX7_setLoad_14 ?_
    exact re_i hQ ha hx hb hr hlk hAe hP hS dX7_setLoad_16 (by simp only [jSetLoad, c_11, if_true, if_false]) (by simp only [hSetLoad, mPut_now, c_11, if_true, if_false])
def rm_X7_setSeed : Room := { frames := 1, cells := 0, slots := 0, locals := 25 }
theorem iX7_setSeed_7 : ∀ w ∈ u_ws RX7 TX7 18, w ∈ wsX7_setSeed := fun w h => (List.mem_cons_of_mem _ (List.mem_append_right _ h))
set_option maxHeartbeats 1000000 in
set_option maxRecDepth 100000 in
theorem c_X7_setSeed (Γ : gT) (l : Launch) (a : Nat → Nat) (b : Nat) (μ : Mst) (v : Int32)  : Ci Γ l yX7_setSeed wsX7_setSeed rm_X7_setSeed [.ref (a b), .int v] (modW Γ a b μ) (jSetSeed μ v) (modW Γ a b (hSetSeed μ v)) := by
  refine Ci.of (cc := cX7_setSeed) (own := RX7) (nL := 3) (ret := (some .int)) (by decide +kernel) rfl rfl (Nat.le_of_ble_eq_true rfl) ?_
  intro p e s m args below meth c A Q H locs ls ha hAe hQ hx hb hml hr hts hown hlk hP hK hD hS hA hG hl
  have hh : Hd Γ p s m args c cX7_setSeed RX7 3 wsX7_setSeed A := ⟨⟨hx, hb, hml, hown, hts⟩, hK, hA, hG⟩
  have hl : lv_has ls 3 [(0, .ref (a b)), (1, .int v)] := hl
  refine lv_iload_n hx hb dX7_setSeed_0 rfl (lv_at hl 1 rfl) ?_
  refine lv_i2l (v := v.toInt64) hx hb dX7_setSeed_1 rfl ?_
  refine lv_lconst (v := 0) hx hb dX7_setSeed_2 (by decide) ?_
  refine lv_ldc2 hx hb hown (hts (.constantLong RX7 88 (9999)) (List.mem_of_getElem? (i := 1) rfl)) dX7_setSeed_3 ?_
  refine ca_Si hh hl.1 (c_X7_in Γ l (v.toInt64) 0 9999) (va_cwS 3 hts gX7_setSeed_X7_in rfl rfl rfl (by decide +kernel) ⟨(Nat.le_of_ble_eq_true rfl), (Nat.le_of_ble_eq_true rfl)⟩) (As := [.long (v.toInt64), .long 0, .long 9999]) (rest := []) rfl dX7_setSeed_6 rfl (Nat.le_of_ble_eq_true rfl) hP hD hS ⟨Nat.zero_le _, Nat.zero_le _⟩ (fun H locs hP hS => ?_)
  refine lv_if_ne (tgt := 15) hx hb dX7_setSeed_9 (by decide) (fun c_9 => ?_) (fun c_9 => ?_)
  · -- yes
    refine lv_aload_n hx hb dX7_setSeed_15 rfl (lv_at hl 0 rfl) ?_
    refine va_get (D := gD Γ) (cl := vwCl) (tys := gTy Γ) (ci := 7) (v := .ref (a (b + 1))) (C := RX7) (T := TX7) (N := 18) hx hb hts iX7_setSeed_7 hown hK hP 0 rfl rfl 0 (Nat.le_of_ble_eq_true rfl) (hts (.fieldLink RX7 7 "DeadTimeLoopModel" "now" "[J") (List.mem_of_getElem? (i := 3) rfl)) (fun _ h9 => h9) rfl dX7_setSeed_16 ?_
    refine lv_sipush (v := 643) hx hb dX7_setSeed_19 (by decide) ?_
    refine ka_lald (D := gD Γ) (cl := vwCl) (tys := gTy Γ) hx hb hK hP 1 1 rfl rfl 643 (by decide) (by decide) (by decide) (v := ((mNow μ) 643)) rfl dX7_setSeed_22 ?_
    refine lv_l2i (v := ((mNow μ) 643).toInt32) hx hb dX7_setSeed_23 rfl ?_
    refine lv_istore_n (lv' := [(2, .int (((mNow μ) 643).toInt32)), (0, .ref (a b)), (1, .int v)]) hx hb dX7_setSeed_24 rfl hl (by decide) rfl (fun ls hl => ?_)
    refine lv_aload_n hx hb dX7_setSeed_25 rfl (lv_at hl 1 rfl) ?_
    refine va_get (D := gD Γ) (cl := vwCl) (tys := gTy Γ) (ci := 7) (v := .ref (a (b + 1))) (C := RX7) (T := TX7) (N := 18) hx hb hts iX7_setSeed_7 hown hK hP 0 rfl rfl 0 (Nat.le_of_ble_eq_true rfl) (hts (.fieldLink RX7 7 "DeadTimeLoopModel" "now" "[J") (List.mem_of_getElem? (i := 3) rfl)) (fun _ h9 => h9) rfl dX7_setSeed_26 ?_
    refine lv_sipush (v := 643) hx hb dX7_setSeed_29 (by decide) ?_
    refine lv_iload_n hx hb dX7_setSeed_32 rfl (lv_at hl 2 rfl) ?_
    refine lv_i2l (v := v.toInt64) hx hb dX7_setSeed_33 rfl ?_
    refine ka_last (D := gD Γ) (cl := vwCl) (tys := gTy Γ) hx hb hK hP hD hS 1 1 rfl rfl 643 (by decide) (by decide) (by decide) (wf := modW Γ a b ((vp_updL (mNow μ) 643 (v.toInt64)), (mAside μ), (mKept μ), (mKm μ), (mPar μ), (mParA μ), (mBef μ), (mUm μ), (mLow μ), (mHigh μ), (mNames μ), (mLen μ), (mText μ), (mPath μ), (mIdeal μ), (mSpot μ), (mWhich μ), (mNum μ))) rfl dX7_setSeed_34 (fun H locs hP hD hS => ?_)
    refine lv_iload_n hx hb dX7_setSeed_35 rfl (lv_at hl 0 rfl) ?_
    exact re_i hQ ha hx hb hr hlk hAe hP hS dX7_setSeed_36 (by simp only [jSetSeed, c_9, if_true, if_false]) (by simp only [hSetSeed, mPut_now, c_9, if_true, if_false])
  · -- no
    refine lv_ldc hx hb hown (hts (.constant RX7 74 (-2000000001)) (List.mem_of_getElem? (i := 2) rfl)) dX7_setSeed_12 ?_
    exact re_i hQ ha hx hb hr hlk hAe hP hS dX7_setSeed_14 (by simp only [jSetSeed, c_9, if_true, if_false]) (by simp only [hSetSeed, mPut_now, c_9, if_true, if_false])
def rm_X7_type : Room := { frames := 1, cells := 0, slots := 0, locals := 25 }
theorem iX7_type_7 : ∀ w ∈ u_ws RX7 TX7 18, w ∈ wsX7_type := fun w h => (List.mem_cons_of_mem _ (List.mem_append_right _ h))
set_option maxHeartbeats 1000000 in
set_option maxRecDepth 100000 in
theorem c_X7_type (Γ : gT) (l : Launch) (a : Nat → Nat) (b : Nat) (μ : Mst) (k : Int32) (hL : lenOk (mLen μ)) : Ci Γ l yX7_type wsX7_type rm_X7_type [.ref (a b), .int k] (modW Γ a b μ) (jType μ k) (modW Γ a b (hType μ k)) := by
  refine Ci.of (cc := cX7_type) (own := RX7) (nL := 2) (ret := (some .int)) (by decide +kernel) rfl rfl (Nat.le_of_ble_eq_true rfl) ?_
  intro p e s m args below meth c A Q H locs ls ha hAe hQ hx hb hml hr hts hown hlk hP hK hD hS hA hG hl
  have hh : Hd Γ p s m args c cX7_type RX7 2 wsX7_type A := ⟨⟨hx, hb, hml, hown, hts⟩, hK, hA, hG⟩
  have hl : lv_has ls 2 [(0, .ref (a b)), (1, .int k)] := hl
  refine lv_iload_n hx hb dX7_type_0 rfl (lv_at hl 1 rfl) ?_
  refine lv_i2l (v := k.toInt64) hx hb dX7_type_1 rfl ?_
  refine lv_ldc2 hx hb hown (hts (.constantLong RX7 90 (32)) (List.mem_of_getElem? (i := 1) rfl)) dX7_type_2 ?_
  refine lv_ldc2 hx hb hown (hts (.constantLong RX7 92 (126)) (List.mem_of_getElem? (i := 2) rfl)) dX7_type_5 ?_
  refine ca_Si hh hl.1 (c_X7_in Γ l (k.toInt64) 32 126) (va_cwS 3 hts gX7_type_X7_in rfl rfl rfl (by decide +kernel) ⟨(Nat.le_of_ble_eq_true rfl), (Nat.le_of_ble_eq_true rfl)⟩) (As := [.long (k.toInt64), .long 32, .long 126]) (rest := []) rfl dX7_type_8 rfl (Nat.le_of_ble_eq_true rfl) hP hD hS ⟨Nat.zero_le _, Nat.zero_le _⟩ (fun H locs hP hS => ?_)
  refine lv_if_ne (tgt := 17) hx hb dX7_type_11 (by decide) (fun c_11 => ?_) (fun c_11 => ?_)
  · -- yes
    refine lv_aload_n hx hb dX7_type_17 rfl (lv_at hl 0 rfl) ?_
    refine va_get (D := gD Γ) (cl := vwCl) (tys := gTy Γ) (ci := 7) (v := .int (mLen μ)) (C := RX7) (T := TX7) (N := 18) hx hb hts iX7_type_7 hown hK hP 0 rfl rfl 11 (Nat.le_of_ble_eq_true rfl) (hts (.fieldLink RX7 94 "DeadTimeLoopModel" "length" "I") (List.mem_of_getElem? (i := 4) rfl)) (fun _ h9 => h9) rfl dX7_type_18 ?_
    refine lv_bipush (v := 80) hx hb dX7_type_21 (by decide) ?_
    refine lv_icmp_ne (tgt := 29) hx hb dX7_type_23 (by decide) (fun c_23 => ?_) (fun c_23 => ?_)
    · -- yes
      refine lv_aload_n hx hb dX7_type_29 rfl (lv_at hl 0 rfl) ?_
      refine va_get (D := gD Γ) (cl := vwCl) (tys := gTy Γ) (ci := 7) (v := .ref (a (b + 10))) (C := RX7) (T := TX7) (N := 18) hx hb hts iX7_type_7 hown hK hP 0 rfl rfl 12 (Nat.le_of_ble_eq_true rfl) (hts (.fieldLink RX7 38 "DeadTimeLoopModel" "text" "[I") (List.mem_of_getElem? (i := 6) rfl)) (fun _ h9 => h9) rfl dX7_type_30 ?_
      refine lv_aload_n hx hb dX7_type_33 rfl (lv_at hl 0 rfl) ?_
      refine va_get (D := gD Γ) (cl := vwCl) (tys := gTy Γ) (ci := 7) (v := .int (mLen μ)) (C := RX7) (T := TX7) (N := 18) hx hb hts iX7_type_7 hown hK hP 0 rfl rfl 11 (Nat.le_of_ble_eq_true rfl) (hts (.fieldLink RX7 94 "DeadTimeLoopModel" "length" "I") (List.mem_of_getElem? (i := 4) rfl)) (fun _ h9 => h9) rfl dX7_type_34 ?_
      refine lv_iload_n hx hb dX7_type_37 rfl (lv_at hl 1 rfl) ?_
      refine ka_iast (D := gD Γ) (cl := vwCl) (tys := gTy Γ) hx hb hK hP hD hS 10 0 rfl rfl ((mLen μ).toNatClampNeg) (nI_of_in (len_in hL c_23) (by decide)) (in_lt (len_in hL c_23)) (by decide) (wf := modW Γ a b ((mNow μ), (mAside μ), (mKept μ), (mKm μ), (mPar μ), (mParA μ), (mBef μ), (mUm μ), (mLow μ), (mHigh μ), (mNames μ), (mLen μ), (upd (mText μ) ((mLen μ).toNatClampNeg) k), (mPath μ), (mIdeal μ), (mSpot μ), (mWhich μ), (mNum μ))) rfl dX7_type_38 (fun H locs hP hD hS => ?_)
      refine lv_aload_n hx hb dX7_type_39 rfl (lv_at hl 0 rfl) ?_
      refine lv_dup hx hb dX7_type_40 rfl ?_
      refine va_get (D := gD Γ) (cl := vwCl) (tys := gTy Γ) (ci := 7) (v := .int (mLen μ)) (C := RX7) (T := TX7) (N := 18) hx hb hts iX7_type_7 hown hK hP 0 rfl rfl 11 (Nat.le_of_ble_eq_true rfl) (hts (.fieldLink RX7 94 "DeadTimeLoopModel" "length" "I") (List.mem_of_getElem? (i := 4) rfl)) (fun _ h9 => h9) rfl dX7_type_41 ?_
      refine lv_iconst (v := 1) hx hb dX7_type_44 (by decide) ?_
      refine lv_iadd hx hb dX7_type_45 ?_
      refine va_put (D := gD Γ) (cl := vwCl) (tys := gTy Γ) (ci := 7) (v := .int ((mLen μ) + 1)) (ty := tyX7 11) (C := RX7) (T := TX7) (N := 18) hx hb hts iX7_type_7 tyX7 tyX7_ok nmX7 hown hK hP hD hS 0 rfl rfl 11 (Nat.le_of_ble_eq_true rfl) (hts (.fieldLink RX7 94 "DeadTimeLoopModel" "length" "I") (List.mem_of_getElem? (i := 4) rfl)) (fun _ h9 => h9) rfl (tyX7_ok 11 (Nat.le_of_ble_eq_true rfl)) rfl rfl (Nat.le_of_ble_eq_true rfl) dX7_type_46 (fun H locs hP hD hS => ?_)
      have hP : va_P (gD Γ) vwCl (modW Γ a b ((mNow μ), (mAside μ), (mKept μ), (mKm μ), (mPar μ), (mParA μ), (mBef μ), (mUm μ), (mLow μ), (mHigh μ), (mNames μ), ((mLen μ) + 1), (upd (mText μ) ((mLen μ).toNatClampNeg) k), (mPath μ), (mIdeal μ), (mSpot μ), (mWhich μ), (mNum μ))) H := hP
      have hD : va_D A (modW Γ a b ((mNow μ), (mAside μ), (mKept μ), (mKm μ), (mPar μ), (mParA μ), (mBef μ), (mUm μ), (mLow μ), (mHigh μ), (mNames μ), ((mLen μ) + 1), (upd (mText μ) ((mLen μ).toNatClampNeg) k), (mPath μ), (mIdeal μ), (mSpot μ), (mWhich μ), (mNum μ))) := hD
      refine lv_aload_n hx hb dX7_type_49 rfl (lv_at hl 0 rfl) ?_
      refine va_get (D := gD Γ) (cl := vwCl) (tys := gTy Γ) (ci := 7) (v := .int ((mLen μ) + 1)) (C := RX7) (T := TX7) (N := 18) hx hb hts iX7_type_7 hown hK hP 0 rfl rfl 11 (Nat.le_of_ble_eq_true rfl) (hts (.fieldLink RX7 94 "DeadTimeLoopModel" "length" "I") (List.mem_of_getElem? (i := 4) rfl)) (fun _ h9 => h9) rfl dX7_type_50 ?_
      exact re_i hQ ha hx hb hr hlk hAe hP hS dX7_type_53 (by simp only [jType, c_11, c_23, if_true, if_false]) (by simp only [hType, mPut_text, mPut_length, mPut_now, c_11, c_23, if_true, if_false])
    · -- no
      refine lv_ldc hx hb hown (hts (.constant RX7 97 (-2000000003)) (List.mem_of_getElem? (i := 5) rfl)) dX7_type_26 ?_
      exact re_i hQ ha hx hb hr hlk hAe hP hS dX7_type_28 (by simp only [jType, c_11, c_23, if_true, if_false]) (by simp only [hType, mPut_text, mPut_length, mPut_now, c_11, c_23, if_true, if_false])
  · -- no
    refine lv_ldc hx hb hown (hts (.constant RX7 74 (-2000000001)) (List.mem_of_getElem? (i := 3) rfl)) dX7_type_14 ?_
    exact re_i hQ ha hx hb hr hlk hAe hP hS dX7_type_16 (by simp only [jType, c_11, if_true, if_false]) (by simp only [hType, mPut_text, mPut_length, mPut_now, c_11, if_true, if_false])
def rm_X7_clearText : Room := { frames := 0, cells := 0, slots := 0, locals := 0 }
theorem iX7_clearText_7 : ∀ w ∈ u_ws RX7 TX7 18, w ∈ wsX7_clearText := fun w h => (List.mem_cons_of_mem _ (List.mem_append_right _ h))
set_option maxHeartbeats 1000000 in
set_option maxRecDepth 100000 in
theorem c_X7_clearText (Γ : gT) (l : Launch) (a : Nat → Nat) (b : Nat) (μ : Mst)  : Ci Γ l yX7_clearText wsX7_clearText rm_X7_clearText [.ref (a b)] (modW Γ a b μ) (mLen μ) (modW Γ a b (hClearText μ)) := by
  refine Ci.of (cc := cX7_clearText) (own := RX7) (nL := 2) (ret := (some .int)) (by decide +kernel) rfl rfl (Nat.le_of_ble_eq_true rfl) ?_
  intro p e s m args below meth c A Q H locs ls ha hAe hQ hx hb hml hr hts hown hlk hP hK hD hS hA hG hl
  have hh : Hd Γ p s m args c cX7_clearText RX7 2 wsX7_clearText A := ⟨⟨hx, hb, hml, hown, hts⟩, hK, hA, hG⟩
  have hl : lv_has ls 2 [(0, .ref (a b))] := hl
  refine lv_aload_n hx hb dX7_clearText_0 rfl (lv_at hl 0 rfl) ?_
  refine va_get (D := gD Γ) (cl := vwCl) (tys := gTy Γ) (ci := 7) (v := .int (mLen μ)) (C := RX7) (T := TX7) (N := 18) hx hb hts iX7_clearText_7 hown hK hP 0 rfl rfl 11 (Nat.le_of_ble_eq_true rfl) (hts (.fieldLink RX7 94 "DeadTimeLoopModel" "length" "I") (List.mem_of_getElem? (i := 1) rfl)) (fun _ h9 => h9) rfl dX7_clearText_1 ?_
  refine lv_istore_n (lv' := [(1, .int (mLen μ)), (0, .ref (a b))]) hx hb dX7_clearText_4 rfl hl (by decide) rfl (fun ls hl => ?_)
  refine lv_aload_n hx hb dX7_clearText_5 rfl (lv_at hl 1 rfl) ?_
  refine lv_iconst (v := 0) hx hb dX7_clearText_6 (by decide) ?_
  refine va_put (D := gD Γ) (cl := vwCl) (tys := gTy Γ) (ci := 7) (v := .int 0) (ty := tyX7 11) (C := RX7) (T := TX7) (N := 18) hx hb hts iX7_clearText_7 tyX7 tyX7_ok nmX7 hown hK hP hD hS 0 rfl rfl 11 (Nat.le_of_ble_eq_true rfl) (hts (.fieldLink RX7 94 "DeadTimeLoopModel" "length" "I") (List.mem_of_getElem? (i := 1) rfl)) (fun _ h9 => h9) rfl (tyX7_ok 11 (Nat.le_of_ble_eq_true rfl)) rfl rfl (Nat.le_of_ble_eq_true rfl) dX7_clearText_7 (fun H locs hP hD hS => ?_)
  have hP : va_P (gD Γ) vwCl (modW Γ a b ((mNow μ), (mAside μ), (mKept μ), (mKm μ), (mPar μ), (mParA μ), (mBef μ), (mUm μ), (mLow μ), (mHigh μ), (mNames μ), 0, (mText μ), (mPath μ), (mIdeal μ), (mSpot μ), (mWhich μ), (mNum μ))) H := hP
  have hD : va_D A (modW Γ a b ((mNow μ), (mAside μ), (mKept μ), (mKm μ), (mPar μ), (mParA μ), (mBef μ), (mUm μ), (mLow μ), (mHigh μ), (mNames μ), 0, (mText μ), (mPath μ), (mIdeal μ), (mSpot μ), (mWhich μ), (mNum μ))) := hD
  refine lv_iload_n hx hb dX7_clearText_10 rfl (lv_at hl 0 rfl) ?_
  exact re_i hQ ha hx hb hr hlk hAe hP hS dX7_clearText_11 rfl rfl
def rm_X7_time : Room := { frames := 0, cells := 0, slots := 0, locals := 0 }
theorem iX7_time_7 : ∀ w ∈ u_ws RX7 TX7 18, w ∈ wsX7_time := fun w h => (List.mem_cons_of_mem _ (List.mem_append_right _ h))
set_option maxHeartbeats 1000000 in
set_option maxRecDepth 100000 in
theorem c_X7_time (Γ : gT) (l : Launch) (a : Nat → Nat) (b : Nat) (μ : Mst)  : Ci Γ l yX7_time wsX7_time rm_X7_time [.ref (a b)] (modW Γ a b μ) ((mNow μ 640).toInt32) (modW Γ a b μ) := by
  refine Ci.of (cc := cX7_time) (own := RX7) (nL := 1) (ret := (some .int)) (by decide +kernel) rfl rfl (Nat.le_of_ble_eq_true rfl) ?_
  intro p e s m args below meth c A Q H locs ls ha hAe hQ hx hb hml hr hts hown hlk hP hK hD hS hA hG hl
  have hh : Hd Γ p s m args c cX7_time RX7 1 wsX7_time A := ⟨⟨hx, hb, hml, hown, hts⟩, hK, hA, hG⟩
  have hl : lv_has ls 1 [(0, .ref (a b))] := hl
  refine lv_aload_n hx hb dX7_time_0 rfl (lv_at hl 0 rfl) ?_
  refine va_get (D := gD Γ) (cl := vwCl) (tys := gTy Γ) (ci := 7) (v := .ref (a (b + 1))) (C := RX7) (T := TX7) (N := 18) hx hb hts iX7_time_7 hown hK hP 0 rfl rfl 0 (Nat.le_of_ble_eq_true rfl) (hts (.fieldLink RX7 7 "DeadTimeLoopModel" "now" "[J") (List.mem_of_getElem? (i := 1) rfl)) (fun _ h9 => h9) rfl dX7_time_1 ?_
  refine lv_sipush (v := 640) hx hb dX7_time_4 (by decide) ?_
  refine ka_lald (D := gD Γ) (cl := vwCl) (tys := gTy Γ) hx hb hK hP 1 1 rfl rfl 640 (by decide) (by decide) (by decide) (v := ((mNow μ) 640)) rfl dX7_time_7 ?_
  refine lv_l2i (v := ((mNow μ) 640).toInt32) hx hb dX7_time_8 rfl ?_
  exact re_i hQ ha hx hb hr hlk hAe hP hS dX7_time_9 rfl rfl
def rm_X7_run : Room := { frames := 3, cells := 0, slots := 0, locals := 85 }
theorem iX7_run_7 : ∀ w ∈ u_ws RX7 TX7 18, w ∈ wsX7_run := fun w h => (List.mem_cons_of_mem _ (List.mem_append_right _ h))
set_option maxHeartbeats 1000000 in
set_option maxRecDepth 100000 in
theorem c_X7_run (Γ : gT) (l : Launch) (a : Nat → Nat) (b : Nat) (μ : Mst) (t : Int32) (N : Nat) (hok : mOk (mNow μ)) (hN : mNow μ 640 = lN N) (hN2 : N < 2000000) : Ci Γ l yX7_run wsX7_run rm_X7_run [.ref (a b), .int t] (modW Γ a b μ) (jRun μ t) (modW Γ a b (hRun μ t)) := by
  refine Ci.of (cc := cX7_run) (own := RX7) (nL := 3) (ret := (some .int)) (by decide +kernel) rfl rfl (Nat.le_of_ble_eq_true rfl) ?_
  intro p e s m args below meth c A Q H locs ls ha hAe hQ hx hb hml hr hts hown hlk hP hK hD hS hA hG hl
  have hh : Hd Γ p s m args c cX7_run RX7 3 wsX7_run A := ⟨⟨hx, hb, hml, hown, hts⟩, hK, hA, hG⟩
  have hl : lv_has ls 3 [(0, .ref (a b)), (1, .int t)] := hl
  refine lv_iload_n hx hb dX7_run_0 rfl (lv_at hl 1 rfl) ?_
  refine lv_i2l (v := t.toInt64) hx hb dX7_run_1 rfl ?_
  refine lv_lconst (v := 1) hx hb dX7_run_2 (by decide) ?_
  refine lv_ldc2 hx hb hown (hts (.constantLong RX7 189 (500)) (List.mem_of_getElem? (i := 1) rfl)) dX7_run_3 ?_
  refine ca_Si hh hl.1 (c_X7_in Γ l (t.toInt64) 1 500) (va_cwS 3 hts gX7_run_X7_in rfl rfl rfl (by decide +kernel) ⟨(Nat.le_of_ble_eq_true rfl), (Nat.le_of_ble_eq_true rfl)⟩) (As := [.long (t.toInt64), .long 1, .long 500]) (rest := []) rfl dX7_run_6 rfl (Nat.le_of_ble_eq_true rfl) hP hD hS ⟨Nat.zero_le _, Nat.zero_le _⟩ (fun H locs hP hS => ?_)
  refine lv_if_ne (tgt := 15) hx hb dX7_run_9 (by decide) (fun c_9 => ?_) (fun c_9 => ?_)
  · -- yes
    have hT := rng_of 1 500 (by decide) (by decide) c_9
    refine lv_aload_n hx hb dX7_run_15 rfl (lv_at hl 0 rfl) ?_
    refine va_get (D := gD Γ) (cl := vwCl) (tys := gTy Γ) (ci := 7) (v := .ref (a (b + 1))) (C := RX7) (T := TX7) (N := 18) hx hb hts iX7_run_7 hown hK hP 0 rfl rfl 0 (Nat.le_of_ble_eq_true rfl) (hts (.fieldLink RX7 7 "DeadTimeLoopModel" "now" "[J") (List.mem_of_getElem? (i := 3) rfl)) (fun _ h9 => h9) rfl dX7_run_16 ?_
    refine lv_sipush (v := 640) hx hb dX7_run_19 (by decide) ?_
    refine ka_lald (D := gD Γ) (cl := vwCl) (tys := gTy Γ) hx hb hK hP 1 1 rfl rfl 640 (by decide) (by decide) (by decide) (v := ((mNow μ) 640)) rfl dX7_run_22 ?_
    refine lv_iload_n hx hb dX7_run_23 rfl (lv_at hl 1 rfl) ?_
    refine lv_i2l (v := t.toInt64) hx hb dX7_run_24 rfl ?_
    refine lv_ladd hx hb dX7_run_25 ?_
    refine lv_ldc2 hx hb hown (hts (.constantLong RX7 86 (100000)) (List.mem_of_getElem? (i := 4) rfl)) dX7_run_26 ?_
    refine W.lcmp hx hb dX7_run_29 ?_
    refine lv_if_le (tgt := 36) hx hb dX7_run_30 (by decide) (fun c_30 => ?_) (fun c_30 => ?_)
    · -- yes
      have c_30 := (lg_cmp_le _ _).mp c_30
      refine lv_iconst (v := 0) hx hb dX7_run_36 (by decide) ?_
      refine lv_istore_n (lv' := [(2, .int 0), (0, .ref (a b)), (1, .int t)]) hx hb dX7_run_37 rfl hl (by decide) rfl (fun ls hl => ?_)
      have hJ_38 : ∀ n : Nat, ∀ (i : Nat) (y : Int32) (n1 : Nat → Int64), (y = nI i) → (i ≤ t.toNatClampNeg) → (t.toNatClampNeg + 1 ≤ i + n) → (n1 640 = lN (N + i)) → (mOk n1) → (mAdv (mPar μ) (mIdeal μ) (t.toNatClampNeg - i) n1 = mAdv (mPar μ) (mIdeal μ) t.toNatClampNeg (mNow μ)) → ∀ (H : Heap) (locs : List Loc) (ls : Array Slot), va_P (gD Γ) vwCl (modW Γ a b (n1, (mAside μ), (mKept μ), (mKm μ), (mPar μ), (mParA μ), (mBef μ), (mUm μ), (mLow μ), (mHigh μ), (mNames μ), (mLen μ), (mText μ), (mPath μ), (mIdeal μ), (mSpot μ), (mWhich μ), (mNum μ))) H → va_D A (modW Γ a b (n1, (mAside μ), (mKept μ), (mKm μ), (mPar μ), (mParA μ), (mBef μ), (mUm μ), (mLow μ), (mHigh μ), (mNames μ), (mLen μ), (mText μ), (mPath μ), (mIdeal μ), (mSpot μ), (mWhich μ), (mNum μ))) → va_S A s.heap H locs → lv_has ls 3 [(0, .ref (a b)), (1, .int t), (2, .int y)] → W p l e rm_X7_run s m args below meth c H locs 0 0 Q (F0 m 38 ls []) := by
        intro n
        induction n with
        | zero =>
          intro i y n1 ey hi hn hs hok1 hg
          omega
        | succ n ih =>
          intro i y n1 ey hi hn hs hok1 hg H locs ls hP hD hS hl
          refine lv_iload_n hx hb dX7_run_38 rfl (lv_at hl 2 rfl) ?_
          refine lv_iload_n hx hb dX7_run_39 rfl (lv_at hl 1 rfl) ?_
          refine lv_icmp_ge (tgt := 53) hx hb dX7_run_40 (by decide) (fun c_40 => ?_) (fun c_40 => ?_)
          · -- yes
            have hiT : i = t.toNatClampNeg := (by have q0 := c_40; rw [hT.1, ey] at q0; rcases Nat.lt_or_ge i t.toNatClampNeg with q | q; exact absurd q0 (nI_ge q (by omega)); omega)
            have hn1 : mAdv (mPar μ) (mIdeal μ) t.toNatClampNeg (mNow μ) = n1 := by rw [← hg, hiT, Nat.sub_self]; rfl
            refine lv_aload_n hx hb dX7_run_53 rfl (lv_at hl 0 rfl) ?_
            refine va_get (D := gD Γ) (cl := vwCl) (tys := gTy Γ) (ci := 7) (v := .ref (a (b + 1))) (C := RX7) (T := TX7) (N := 18) hx hb hts iX7_run_7 hown hK hP 0 rfl rfl 0 (Nat.le_of_ble_eq_true rfl) (hts (.fieldLink RX7 7 "DeadTimeLoopModel" "now" "[J") (List.mem_of_getElem? (i := 3) rfl)) (fun _ h9 => h9) rfl dX7_run_54 ?_
            refine lv_sipush (v := 640) hx hb dX7_run_57 (by decide) ?_
            refine ka_lald (D := gD Γ) (cl := vwCl) (tys := gTy Γ) hx hb hK hP 1 1 rfl rfl 640 (by decide) (by decide) (by decide) (v := (n1 640)) rfl dX7_run_60 ?_
            refine lv_l2i (v := (n1 640).toInt32) hx hb dX7_run_61 rfl ?_
            exact re_i hQ ha hx hb hr hlk hAe hP hS dX7_run_62 (by simp only [jRun, hn1, c_9, c_30, c_40, if_true, if_false]) (by simp only [hRun, hn1, mPut_now, c_9, c_30, c_40, if_true, if_false])
          · -- no
            have hlt : i < t.toNatClampNeg := (by have q0 := c_40; rw [hT.1, ey] at q0; exact lt_of_nle q0 (by omega) (by omega))
            refine lv_aload_n hx hb dX7_run_43 rfl (lv_at hl 0 rfl) ?_
            obtain ⟨u_44, eu_44⟩ : ∃ z : Nat → Int64, z = mTick n1 (mPar μ) (mIdeal μ) := ⟨_, rfl⟩
            have hM_44 : Cv Γ l yX7_ticks wsX7_ticks rm_X7_ticks [.ref (a b)] (modW Γ a b (n1, (mAside μ), (mKept μ), (mKm μ), (mPar μ), (mParA μ), (mBef μ), (mUm μ), (mLow μ), (mHigh μ), (mNames μ), (mLen μ), (mText μ), (mPath μ), (mIdeal μ), (mSpot μ), (mWhich μ), (mNum μ))) (modW Γ a b (u_44, (mAside μ), (mKept μ), (mKm μ), (mPar μ), (mParA μ), (mBef μ), (mUm μ), (mLow μ), (mHigh μ), (mNames μ), (mLen μ), (mText μ), (mPath μ), (mIdeal μ), (mSpot μ), (mWhich μ), (mNum μ))) := by rw [eu_44]; exact c_X7_ticks Γ l a b (n1, (mAside μ), (mKept μ), (mKm μ), (mPar μ), (mParA μ), (mBef μ), (mUm μ), (mLow μ), (mHigh μ), (mNames μ), (mLen μ), (mText μ), (mPath μ), (mIdeal μ), (mSpot μ), (mWhich μ), (mNum μ)) hok1
            refine ca_Vva hh hl.1 hM_44 (cwV 0 hts gX7_run_X7_ticks rfl rfl rfl (by decide +kernel) ⟨(Nat.le_of_ble_eq_true rfl), (Nat.le_of_ble_eq_true rfl)⟩) (As := []) (rest := []) rfl dX7_run_44 rfl (Nat.le_of_ble_eq_true rfl) hP hD hS (q0 := 0) (ci := 7) rfl rfl rfl (wf := modW Γ a b (u_44, (mAside μ), (mKept μ), (mKm μ), (mPar μ), (mParA μ), (mBef μ), (mUm μ), (mLow μ), (mHigh μ), (mNames μ), (mLen μ), (mText μ), (mPath μ), (mIdeal μ), (mSpot μ), (mWhich μ), (mNum μ))) rfl ⟨Nat.zero_le _, Nat.zero_le _⟩ (fun H locs hP hD hS => ?_)
            refine lv_iinc (v := (y + 1)) (lv' := [(2, .int (y + 1)), (0, .ref (a b)), (1, .int t)]) hx hb dX7_run_47 hl (k := 2) rfl rfl (by decide) rfl (fun ls hl => ?_)
            refine lv_goto (tgt := 38) hx hb dX7_run_50 (by decide) ?_
            exact ih (i + 1) _ _ (by rw [ey]; exact nI_1 i) (by omega) (by omega) (by rw [eu_44]; exact (mOk_tick _ _ hok1 hs (by omega)).2) (by rw [eu_44]; exact (mOk_tick _ _ hok1 hs (by omega)).1) (by rw [← hg, show t.toNatClampNeg - i = (t.toNatClampNeg - (i + 1)) + 1 from by omega, mAdv_s, eu_44]) _ _ _ hP hD hS (lv_sub hl [1, 2, 0] rfl)
      exact hJ_38 (t.toNatClampNeg + 1) 0 0 _ rfl (by omega) (by omega) hN hok rfl _ _ _ hP hD hS (lv_sub hl [1, 2, 0] rfl)
    · -- no
      have c_30 := mt (lg_cmp_le _ _).mpr c_30
      refine lv_ldc hx hb hown (hts (.constant RX7 97 (-2000000003)) (List.mem_of_getElem? (i := 5) rfl)) dX7_run_33 ?_
      exact re_i hQ ha hx hb hr hlk hAe hP hS dX7_run_35 (by simp only [jRun, c_9, c_30, if_true, if_false]) (by simp only [hRun, mPut_now, c_9, c_30, if_true, if_false])
  · -- no
    refine lv_ldc hx hb hown (hts (.constant RX7 74 (-2000000001)) (List.mem_of_getElem? (i := 2) rfl)) dX7_run_12 ?_
    exact re_i hQ ha hx hb hr hlk hAe hP hS dX7_run_14 (by simp only [jRun, c_9, if_true, if_false]) (by simp only [hRun, mPut_now, c_9, if_true, if_false])
def rm_X7_present : Room := { frames := 0, cells := 0, slots := 0, locals := 0 }
theorem iX7_present_7 : ∀ w ∈ u_ws RX7 TX7 18, w ∈ wsX7_present := fun w h => (List.mem_cons_of_mem _ (List.mem_append_right _ h))
set_option maxHeartbeats 1000000 in
set_option maxRecDepth 100000 in
theorem c_X7_present (Γ : gT) (l : Launch) (a : Nat → Nat) (b : Nat) (μ : Mst) (s1 : Int32)  : Ci Γ l yX7_present wsX7_present rm_X7_present [.ref (a b), .int s1] (modW Γ a b μ) (mPres (mNow μ) s1) (modW Γ a b μ) := by
  refine Ci.of (cc := cX7_present) (own := RX7) (nL := 2) (ret := (some .int)) (by decide +kernel) rfl rfl (Nat.le_of_ble_eq_true rfl) ?_
  intro p e s m args below meth c A Q H locs ls ha hAe hQ hx hb hml hr hts hown hlk hP hK hD hS hA hG hl
  have hh : Hd Γ p s m args c cX7_present RX7 2 wsX7_present A := ⟨⟨hx, hb, hml, hown, hts⟩, hK, hA, hG⟩
  have hl : lv_has ls 2 [(0, .ref (a b)), (1, .int s1)] := hl
  refine lv_iload_n hx hb dX7_present_0 rfl (lv_at hl 1 rfl) ?_
  by_cases t_1_0 : s1 = 0
  · --
    refine lv_tableIn (tgt := 52) (off := 51) hx hb dX7_present_1 (by rw [t_1_0]; decide) (by rw [t_1_0]; decide) (by rw [t_1_0]; rfl) (by decide) ?_
    refine lv_aload_n hx hb dX7_present_52 rfl (lv_at hl 0 rfl) ?_
    refine va_get (D := gD Γ) (cl := vwCl) (tys := gTy Γ) (ci := 7) (v := .ref (a (b + 1))) (C := RX7) (T := TX7) (N := 18) hx hb hts iX7_present_7 hown hK hP 0 rfl rfl 0 (Nat.le_of_ble_eq_true rfl) (hts (.fieldLink RX7 7 "DeadTimeLoopModel" "now" "[J") (List.mem_of_getElem? (i := 1) rfl)) (fun _ h9 => h9) rfl dX7_present_53 ?_
    refine lv_sipush (v := 641) hx hb dX7_present_56 (by decide) ?_
    refine ka_lald (D := gD Γ) (cl := vwCl) (tys := gTy Γ) hx hb hK hP 1 1 rfl rfl 641 (by decide) (by decide) (by decide) (v := ((mNow μ) 641)) rfl dX7_present_59 ?_
    refine lv_l2i (v := ((mNow μ) 641).toInt32) hx hb dX7_present_60 rfl ?_
    exact re_i hQ ha hx hb hr hlk hAe hP hS dX7_present_61 (by simp [mPres, t_1_0]) rfl
  by_cases t_1_1 : s1 = 1
  · --
    refine lv_tableIn (tgt := 62) (off := 61) hx hb dX7_present_1 (by rw [t_1_1]; decide) (by rw [t_1_1]; decide) (by rw [t_1_1]; rfl) (by decide) ?_
    refine lv_aload_n hx hb dX7_present_62 rfl (lv_at hl 0 rfl) ?_
    refine va_get (D := gD Γ) (cl := vwCl) (tys := gTy Γ) (ci := 7) (v := .ref (a (b + 1))) (C := RX7) (T := TX7) (N := 18) hx hb hts iX7_present_7 hown hK hP 0 rfl rfl 0 (Nat.le_of_ble_eq_true rfl) (hts (.fieldLink RX7 7 "DeadTimeLoopModel" "now" "[J") (List.mem_of_getElem? (i := 1) rfl)) (fun _ h9 => h9) rfl dX7_present_63 ?_
    refine lv_sipush (v := 652) hx hb dX7_present_66 (by decide) ?_
    refine ka_lald (D := gD Γ) (cl := vwCl) (tys := gTy Γ) hx hb hK hP 1 1 rfl rfl 652 (by decide) (by decide) (by decide) (v := ((mNow μ) 652)) rfl dX7_present_69 ?_
    refine lv_l2i (v := ((mNow μ) 652).toInt32) hx hb dX7_present_70 rfl ?_
    exact re_i hQ ha hx hb hr hlk hAe hP hS dX7_present_71 (by simp [mPres, t_1_1]) rfl
  by_cases t_1_2 : s1 = 2
  · --
    refine lv_tableIn (tgt := 72) (off := 71) hx hb dX7_present_1 (by rw [t_1_2]; decide) (by rw [t_1_2]; decide) (by rw [t_1_2]; rfl) (by decide) ?_
    refine lv_aload_n hx hb dX7_present_72 rfl (lv_at hl 0 rfl) ?_
    refine va_get (D := gD Γ) (cl := vwCl) (tys := gTy Γ) (ci := 7) (v := .ref (a (b + 1))) (C := RX7) (T := TX7) (N := 18) hx hb hts iX7_present_7 hown hK hP 0 rfl rfl 0 (Nat.le_of_ble_eq_true rfl) (hts (.fieldLink RX7 7 "DeadTimeLoopModel" "now" "[J") (List.mem_of_getElem? (i := 1) rfl)) (fun _ h9 => h9) rfl dX7_present_73 ?_
    refine lv_sipush (v := 651) hx hb dX7_present_76 (by decide) ?_
    refine ka_lald (D := gD Γ) (cl := vwCl) (tys := gTy Γ) hx hb hK hP 1 1 rfl rfl 651 (by decide) (by decide) (by decide) (v := ((mNow μ) 651)) rfl dX7_present_79 ?_
    refine lv_l2i (v := ((mNow μ) 651).toInt32) hx hb dX7_present_80 rfl ?_
    exact re_i hQ ha hx hb hr hlk hAe hP hS dX7_present_81 (by simp [mPres, t_1_2]) rfl
  by_cases t_1_3 : s1 = 3
  · --
    refine lv_tableIn (tgt := 82) (off := 81) hx hb dX7_present_1 (by rw [t_1_3]; decide) (by rw [t_1_3]; decide) (by rw [t_1_3]; rfl) (by decide) ?_
    refine lv_aload_n hx hb dX7_present_82 rfl (lv_at hl 0 rfl) ?_
    refine va_get (D := gD Γ) (cl := vwCl) (tys := gTy Γ) (ci := 7) (v := .ref (a (b + 1))) (C := RX7) (T := TX7) (N := 18) hx hb hts iX7_present_7 hown hK hP 0 rfl rfl 0 (Nat.le_of_ble_eq_true rfl) (hts (.fieldLink RX7 7 "DeadTimeLoopModel" "now" "[J") (List.mem_of_getElem? (i := 1) rfl)) (fun _ h9 => h9) rfl dX7_present_83 ?_
    refine lv_sipush (v := 645) hx hb dX7_present_86 (by decide) ?_
    refine ka_lald (D := gD Γ) (cl := vwCl) (tys := gTy Γ) hx hb hK hP 1 1 rfl rfl 645 (by decide) (by decide) (by decide) (v := ((mNow μ) 645)) rfl dX7_present_89 ?_
    refine lv_l2i (v := ((mNow μ) 645).toInt32) hx hb dX7_present_90 rfl ?_
    exact re_i hQ ha hx hb hr hlk hAe hP hS dX7_present_91 (by simp [mPres, t_1_3]) rfl
  by_cases t_1_4 : s1 = 4
  · --
    refine lv_tableIn (tgt := 92) (off := 91) hx hb dX7_present_1 (by rw [t_1_4]; decide) (by rw [t_1_4]; decide) (by rw [t_1_4]; rfl) (by decide) ?_
    refine lv_aload_n hx hb dX7_present_92 rfl (lv_at hl 0 rfl) ?_
    refine va_get (D := gD Γ) (cl := vwCl) (tys := gTy Γ) (ci := 7) (v := .ref (a (b + 1))) (C := RX7) (T := TX7) (N := 18) hx hb hts iX7_present_7 hown hK hP 0 rfl rfl 0 (Nat.le_of_ble_eq_true rfl) (hts (.fieldLink RX7 7 "DeadTimeLoopModel" "now" "[J") (List.mem_of_getElem? (i := 1) rfl)) (fun _ h9 => h9) rfl dX7_present_93 ?_
    refine lv_sipush (v := 653) hx hb dX7_present_96 (by decide) ?_
    refine ka_lald (D := gD Γ) (cl := vwCl) (tys := gTy Γ) hx hb hK hP 1 1 rfl rfl 653 (by decide) (by decide) (by decide) (v := ((mNow μ) 653)) rfl dX7_present_99 ?_
    refine lv_l2i (v := ((mNow μ) 653).toInt32) hx hb dX7_present_100 rfl ?_
    exact re_i hQ ha hx hb hr hlk hAe hP hS dX7_present_101 (by simp [mPres, t_1_4]) rfl
  by_cases t_1_5 : s1 = 5
  · --
    refine lv_tableIn (tgt := 102) (off := 101) hx hb dX7_present_1 (by rw [t_1_5]; decide) (by rw [t_1_5]; decide) (by rw [t_1_5]; rfl) (by decide) ?_
    refine lv_aload_n hx hb dX7_present_102 rfl (lv_at hl 0 rfl) ?_
    refine va_get (D := gD Γ) (cl := vwCl) (tys := gTy Γ) (ci := 7) (v := .ref (a (b + 1))) (C := RX7) (T := TX7) (N := 18) hx hb hts iX7_present_7 hown hK hP 0 rfl rfl 0 (Nat.le_of_ble_eq_true rfl) (hts (.fieldLink RX7 7 "DeadTimeLoopModel" "now" "[J") (List.mem_of_getElem? (i := 1) rfl)) (fun _ h9 => h9) rfl dX7_present_103 ?_
    refine lv_sipush (v := 646) hx hb dX7_present_106 (by decide) ?_
    refine ka_lald (D := gD Γ) (cl := vwCl) (tys := gTy Γ) hx hb hK hP 1 1 rfl rfl 646 (by decide) (by decide) (by decide) (v := ((mNow μ) 646)) rfl dX7_present_109 ?_
    refine lv_l2i (v := ((mNow μ) 646).toInt32) hx hb dX7_present_110 rfl ?_
    exact re_i hQ ha hx hb hr hlk hAe hP hS dX7_present_111 (by simp [mPres, t_1_5]) rfl
  by_cases t_1_6 : s1 = 6
  · --
    refine lv_tableIn (tgt := 112) (off := 111) hx hb dX7_present_1 (by rw [t_1_6]; decide) (by rw [t_1_6]; decide) (by rw [t_1_6]; rfl) (by decide) ?_
    refine lv_aload_n hx hb dX7_present_112 rfl (lv_at hl 0 rfl) ?_
    refine va_get (D := gD Γ) (cl := vwCl) (tys := gTy Γ) (ci := 7) (v := .ref (a (b + 1))) (C := RX7) (T := TX7) (N := 18) hx hb hts iX7_present_7 hown hK hP 0 rfl rfl 0 (Nat.le_of_ble_eq_true rfl) (hts (.fieldLink RX7 7 "DeadTimeLoopModel" "now" "[J") (List.mem_of_getElem? (i := 1) rfl)) (fun _ h9 => h9) rfl dX7_present_113 ?_
    refine lv_sipush (v := 654) hx hb dX7_present_116 (by decide) ?_
    refine ka_lald (D := gD Γ) (cl := vwCl) (tys := gTy Γ) hx hb hK hP 1 1 rfl rfl 654 (by decide) (by decide) (by decide) (v := ((mNow μ) 654)) rfl dX7_present_119 ?_
    refine lv_l2i (v := ((mNow μ) 654).toInt32) hx hb dX7_present_120 rfl ?_
    exact re_i hQ ha hx hb hr hlk hAe hP hS dX7_present_121 (by simp [mPres, t_1_6]) rfl
  by_cases t_1_7 : s1 = 7
  · --
    refine lv_tableIn (tgt := 122) (off := 121) hx hb dX7_present_1 (by rw [t_1_7]; decide) (by rw [t_1_7]; decide) (by rw [t_1_7]; rfl) (by decide) ?_
    refine lv_aload_n hx hb dX7_present_122 rfl (lv_at hl 0 rfl) ?_
    refine va_get (D := gD Γ) (cl := vwCl) (tys := gTy Γ) (ci := 7) (v := .ref (a (b + 1))) (C := RX7) (T := TX7) (N := 18) hx hb hts iX7_present_7 hown hK hP 0 rfl rfl 0 (Nat.le_of_ble_eq_true rfl) (hts (.fieldLink RX7 7 "DeadTimeLoopModel" "now" "[J") (List.mem_of_getElem? (i := 1) rfl)) (fun _ h9 => h9) rfl dX7_present_123 ?_
    refine lv_sipush (v := 647) hx hb dX7_present_126 (by decide) ?_
    refine ka_lald (D := gD Γ) (cl := vwCl) (tys := gTy Γ) hx hb hK hP 1 1 rfl rfl 647 (by decide) (by decide) (by decide) (v := ((mNow μ) 647)) rfl dX7_present_129 ?_
    refine lv_l2i (v := ((mNow μ) 647).toInt32) hx hb dX7_present_130 rfl ?_
    exact re_i hQ ha hx hb hr hlk hAe hP hS dX7_present_131 (by simp [mPres, t_1_7]) rfl
  by_cases t_1_8 : s1 = 8
  · --
    refine lv_tableIn (tgt := 132) (off := 131) hx hb dX7_present_1 (by rw [t_1_8]; decide) (by rw [t_1_8]; decide) (by rw [t_1_8]; rfl) (by decide) ?_
    refine lv_aload_n hx hb dX7_present_132 rfl (lv_at hl 0 rfl) ?_
    refine va_get (D := gD Γ) (cl := vwCl) (tys := gTy Γ) (ci := 7) (v := .ref (a (b + 1))) (C := RX7) (T := TX7) (N := 18) hx hb hts iX7_present_7 hown hK hP 0 rfl rfl 0 (Nat.le_of_ble_eq_true rfl) (hts (.fieldLink RX7 7 "DeadTimeLoopModel" "now" "[J") (List.mem_of_getElem? (i := 1) rfl)) (fun _ h9 => h9) rfl dX7_present_133 ?_
    refine lv_sipush (v := 644) hx hb dX7_present_136 (by decide) ?_
    refine ka_lald (D := gD Γ) (cl := vwCl) (tys := gTy Γ) hx hb hK hP 1 1 rfl rfl 644 (by decide) (by decide) (by decide) (v := ((mNow μ) 644)) rfl dX7_present_139 ?_
    refine lv_l2i (v := ((mNow μ) 644).toInt32) hx hb dX7_present_140 rfl ?_
    exact re_i hQ ha hx hb hr hlk hAe hP hS dX7_present_141 (by simp [mPres, t_1_8]) rfl
  refine lv_tableOut (tgt := 142) hx hb dX7_present_1 (tbl_out s1 0 8 (by decide) (by decide) (tb_out9 t_1_0 t_1_1 t_1_2 t_1_3 t_1_4 t_1_5 t_1_6 t_1_7 t_1_8)) (by decide) ?_
  refine lv_aload_n hx hb dX7_present_142 rfl (lv_at hl 0 rfl) ?_
  refine va_get (D := gD Γ) (cl := vwCl) (tys := gTy Γ) (ci := 7) (v := .ref (a (b + 1))) (C := RX7) (T := TX7) (N := 18) hx hb hts iX7_present_7 hown hK hP 0 rfl rfl 0 (Nat.le_of_ble_eq_true rfl) (hts (.fieldLink RX7 7 "DeadTimeLoopModel" "now" "[J") (List.mem_of_getElem? (i := 1) rfl)) (fun _ h9 => h9) rfl dX7_present_143 ?_
  refine lv_sipush (v := 648) hx hb dX7_present_146 (by decide) ?_
  refine ka_lald (D := gD Γ) (cl := vwCl) (tys := gTy Γ) hx hb hK hP 1 1 rfl rfl 648 (by decide) (by decide) (by decide) (v := ((mNow μ) 648)) rfl dX7_present_149 ?_
  refine lv_l2i (v := ((mNow μ) 648).toInt32) hx hb dX7_present_150 rfl ?_
  exact re_i hQ ha hx hb hr hlk hAe hP hS dX7_present_151 (by simp [mPres, t_1_0, t_1_1, t_1_2, t_1_3, t_1_4, t_1_5, t_1_6, t_1_7, t_1_8]) rfl
def rm_X7_value : Room := { frames := 2, cells := 0, slots := 0, locals := 45 }
set_option maxHeartbeats 1000000 in
set_option maxRecDepth 100000 in
theorem c_X7_value (Γ : gT) (l : Launch) (a : Nat → Nat) (b : Nat) (μ : Mst) (s1 : Int32)  : Ci Γ l yX7_value wsX7_value rm_X7_value [.ref (a b), .int s1] (modW Γ a b μ) (jValue μ s1) (modW Γ a b μ) := by
  refine Ci.of (cc := cX7_value) (own := RX7) (nL := 2) (ret := (some .int)) (by decide +kernel) rfl rfl (Nat.le_of_ble_eq_true rfl) ?_
  intro p e s m args below meth c A Q H locs ls ha hAe hQ hx hb hml hr hts hown hlk hP hK hD hS hA hG hl
  have hh : Hd Γ p s m args c cX7_value RX7 2 wsX7_value A := ⟨⟨hx, hb, hml, hown, hts⟩, hK, hA, hG⟩
  have hl : lv_has ls 2 [(0, .ref (a b)), (1, .int s1)] := hl
  refine lv_iload_n hx hb dX7_value_0 rfl (lv_at hl 1 rfl) ?_
  refine ca_Si hh hl.1 (c_X7_isSignal Γ l s1) (va_cwS 1 hts gX7_value_X7_isSignal rfl rfl rfl (by decide +kernel) ⟨(Nat.le_of_ble_eq_true rfl), (Nat.le_of_ble_eq_true rfl)⟩) (As := [.int s1]) (rest := []) rfl dX7_value_1 rfl (Nat.le_of_ble_eq_true rfl) hP hD hS ⟨Nat.zero_le _, Nat.zero_le _⟩ (fun H locs hP hS => ?_)
  refine lv_if_eq (tgt := 15) hx hb dX7_value_4 (by decide) (fun c_4 => ?_) (fun c_4 => ?_)
  · -- yes
    refine lv_ldc hx hb hown (hts (.constant RX7 74 (-2000000001)) (List.mem_of_getElem? (i := 1) rfl)) dX7_value_15 ?_
    exact re_i hQ ha hx hb hr hlk hAe hP hS dX7_value_17 (by simp only [jValue, c_4, if_true, if_false]) rfl
  · -- no
    refine lv_aload_n hx hb dX7_value_7 rfl (lv_at hl 0 rfl) ?_
    refine lv_iload_n hx hb dX7_value_8 rfl (lv_at hl 1 rfl) ?_
    refine ca_Via hh hl.1 (c_X7_present Γ l a b μ s1) (cwV 1 hts gX7_value_X7_present rfl rfl rfl (by decide +kernel) ⟨(Nat.le_of_ble_eq_true rfl), (Nat.le_of_ble_eq_true rfl)⟩) (As := [.int s1]) (rest := []) rfl dX7_value_9 rfl (Nat.le_of_ble_eq_true rfl) hP hD hS (q0 := 0) (ci := 7) rfl rfl rfl (wf := modW Γ a b μ) rfl ⟨Nat.zero_le _, Nat.zero_le _⟩ (fun H locs hP hD hS => ?_)
    refine lv_goto (tgt := 17) hx hb dX7_value_12 (by decide) ?_
    exact re_i hQ ha hx hb hr hlk hAe hP hS dX7_value_17 (by simp only [jValue, c_4, if_true, if_false]) rfl
def rm_X7_recorded : Room := { frames := 2, cells := 0, slots := 0, locals := 45 }
theorem iX7_recorded_7 : ∀ w ∈ u_ws RX7 TX7 18, w ∈ wsX7_recorded := fun w h => (List.mem_cons_of_mem _ (List.mem_append_right _ h))
set_option maxHeartbeats 1000000 in
set_option maxRecDepth 100000 in
theorem c_X7_recorded (Γ : gT) (l : Launch) (a : Nat → Nat) (b : Nat) (μ : Mst) (s1 : Int32) (ago : Int32)  : Ci Γ l yX7_recorded wsX7_recorded rm_X7_recorded [.ref (a b), .int s1, .int ago] (modW Γ a b μ) (jRecorded μ s1 ago) (modW Γ a b μ) := by
  refine Ci.of (cc := cX7_recorded) (own := RX7) (nL := 3) (ret := (some .int)) (by decide +kernel) rfl rfl (Nat.le_of_ble_eq_true rfl) ?_
  intro p e s m args below meth c A Q H locs ls ha hAe hQ hx hb hml hr hts hown hlk hP hK hD hS hA hG hl
  have hh : Hd Γ p s m args c cX7_recorded RX7 3 wsX7_recorded A := ⟨⟨hx, hb, hml, hown, hts⟩, hK, hA, hG⟩
  have hl : lv_has ls 3 [(0, .ref (a b)), (1, .int s1), (2, .int ago)] := hl
  refine lv_iload_n hx hb dX7_recorded_0 rfl (lv_at hl 1 rfl) ?_
  refine ca_Si hh hl.1 (c_X7_isSignal Γ l s1) (va_cwS 1 hts gX7_recorded_X7_isSignal rfl rfl rfl (by decide +kernel) ⟨(Nat.le_of_ble_eq_true rfl), (Nat.le_of_ble_eq_true rfl)⟩) (As := [.int s1]) (rest := []) rfl dX7_recorded_1 rfl (Nat.le_of_ble_eq_true rfl) hP hD hS ⟨Nat.zero_le _, Nat.zero_le _⟩ (fun H locs hP hS => ?_)
  refine lv_if_eq (tgt := 19) hx hb dX7_recorded_4 (by decide) (fun c_4 => ?_) (fun c_4 => ?_)
  · -- yes
    refine lv_ldc hx hb hown (hts (.constant RX7 74 (-2000000001)) (List.mem_of_getElem? (i := 2) rfl)) dX7_recorded_19 ?_
    exact re_i hQ ha hx hb hr hlk hAe hP hS dX7_recorded_21 (by simp only [jRecorded, c_4, if_true, if_false]) rfl
  · -- no
    refine lv_iload_n hx hb dX7_recorded_7 rfl (lv_at hl 2 rfl) ?_
    refine lv_i2l (v := ago.toInt64) hx hb dX7_recorded_8 rfl ?_
    refine lv_lconst (v := 0) hx hb dX7_recorded_9 (by decide) ?_
    refine lv_ldc2 hx hb hown (hts (.constantLong RX7 202 (63)) (List.mem_of_getElem? (i := 1) rfl)) dX7_recorded_10 ?_
    refine ca_Si hh hl.1 (c_X7_in Γ l (ago.toInt64) 0 63) (va_cwS 3 hts gX7_recorded_X7_in rfl rfl rfl (by decide +kernel) ⟨(Nat.le_of_ble_eq_true rfl), (Nat.le_of_ble_eq_true rfl)⟩) (As := [.long (ago.toInt64), .long 0, .long 63]) (rest := []) rfl dX7_recorded_13 rfl (Nat.le_of_ble_eq_true rfl) hP hD hS ⟨Nat.zero_le _, Nat.zero_le _⟩ (fun H locs hP hS => ?_)
    refine lv_if_ne (tgt := 22) hx hb dX7_recorded_16 (by decide) (fun c_16 => ?_) (fun c_16 => ?_)
    · -- yes
      refine lv_iload_n hx hb dX7_recorded_22 rfl (lv_at hl 2 rfl) ?_
      refine lv_i2l (v := ago.toInt64) hx hb dX7_recorded_23 rfl ?_
      refine lv_aload_n hx hb dX7_recorded_24 rfl (lv_at hl 0 rfl) ?_
      refine va_get (D := gD Γ) (cl := vwCl) (tys := gTy Γ) (ci := 7) (v := .ref (a (b + 1))) (C := RX7) (T := TX7) (N := 18) hx hb hts iX7_recorded_7 hown hK hP 0 rfl rfl 0 (Nat.le_of_ble_eq_true rfl) (hts (.fieldLink RX7 7 "DeadTimeLoopModel" "now" "[J") (List.mem_of_getElem? (i := 3) rfl)) (fun _ h9 => h9) rfl dX7_recorded_25 ?_
      refine lv_sipush (v := 640) hx hb dX7_recorded_28 (by decide) ?_
      refine ka_lald (D := gD Γ) (cl := vwCl) (tys := gTy Γ) hx hb hK hP 1 1 rfl rfl 640 (by decide) (by decide) (by decide) (v := ((mNow μ) 640)) rfl dX7_recorded_31 ?_
      refine W.lcmp hx hb dX7_recorded_32 ?_
      refine lv_if_ge (tgt := 58) hx hb dX7_recorded_33 (by decide) (fun c_33 => ?_) (fun c_33 => ?_)
      · -- yes
        have c_33 := (lg_cmp_ge _ _).mp c_33
        refine lv_ldc hx hb hown (hts (.constant RX7 82 (-2000000004)) (List.mem_of_getElem? (i := 4) rfl)) dX7_recorded_58 ?_
        exact re_i hQ ha hx hb hr hlk hAe hP hS dX7_recorded_60 (by simp only [jRecorded, c_4, c_16, c_33, if_true, if_false]) rfl
      · -- no
        have c_33 := mt (lg_cmp_ge _ _).mpr c_33
        refine lv_aload_n hx hb dX7_recorded_36 rfl (lv_at hl 0 rfl) ?_
        refine lv_iload_n hx hb dX7_recorded_37 rfl (lv_at hl 1 rfl) ?_
        refine lv_aload_n hx hb dX7_recorded_38 rfl (lv_at hl 0 rfl) ?_
        refine va_get (D := gD Γ) (cl := vwCl) (tys := gTy Γ) (ci := 7) (v := .ref (a (b + 1))) (C := RX7) (T := TX7) (N := 18) hx hb hts iX7_recorded_7 hown hK hP 0 rfl rfl 0 (Nat.le_of_ble_eq_true rfl) (hts (.fieldLink RX7 7 "DeadTimeLoopModel" "now" "[J") (List.mem_of_getElem? (i := 3) rfl)) (fun _ h9 => h9) rfl dX7_recorded_39 ?_
        refine lv_sipush (v := 640) hx hb dX7_recorded_42 (by decide) ?_
        refine ka_lald (D := gD Γ) (cl := vwCl) (tys := gTy Γ) hx hb hK hP 1 1 rfl rfl 640 (by decide) (by decide) (by decide) (v := ((mNow μ) 640)) rfl dX7_recorded_45 ?_
        refine lv_lconst (v := 1) hx hb dX7_recorded_46 (by decide) ?_
        refine lv_lsub hx hb dX7_recorded_47 ?_
        refine lv_iload_n hx hb dX7_recorded_48 rfl (lv_at hl 2 rfl) ?_
        refine lv_i2l (v := ago.toInt64) hx hb dX7_recorded_49 rfl ?_
        refine lv_lsub hx hb dX7_recorded_50 ?_
        refine ca_Vla hh hl.1 (c_X7_at Γ l a b μ s1 ((((mNow μ) 640) - 1) - (ago.toInt64)) (fSig_in c_4)) (cwV 2 hts gX7_recorded_X7_at rfl rfl rfl (by decide +kernel) ⟨(Nat.le_of_ble_eq_true rfl), (Nat.le_of_ble_eq_true rfl)⟩) (As := [.int s1, .long ((((mNow μ) 640) - 1) - (ago.toInt64))]) (rest := []) rfl dX7_recorded_51 rfl (Nat.le_of_ble_eq_true rfl) hP hD hS (q0 := 0) (ci := 7) rfl rfl rfl (wf := modW Γ a b μ) rfl ⟨Nat.zero_le _, Nat.zero_le _⟩ (fun H locs hP hD hS => ?_)
        refine lv_l2i (v := (mAt (mNow μ) s1 ((((mNow μ) 640) - 1) - (ago.toInt64))).toInt32) hx hb dX7_recorded_54 rfl ?_
        refine lv_goto (tgt := 60) hx hb dX7_recorded_55 (by decide) ?_
        exact re_i hQ ha hx hb hr hlk hAe hP hS dX7_recorded_60 (by simp only [jRecorded, c_4, c_16, c_33, if_true, if_false]) rfl
    · -- no
      refine lv_ldc hx hb hown (hts (.constant RX7 74 (-2000000001)) (List.mem_of_getElem? (i := 2) rfl)) dX7_recorded_19 ?_
      exact re_i hQ ha hx hb hr hlk hAe hP hS dX7_recorded_21 (by simp only [jRecorded, c_4, c_16, if_true, if_false]) rfl
def rm_X7_restart : Room := { frames := 1, cells := 0, slots := 0, locals := 21 }
theorem iX7_restart_7 : ∀ w ∈ u_ws RX7 TX7 18, w ∈ wsX7_restart := fun w h => (List.mem_cons_of_mem _ (List.mem_append_right _ h))
set_option maxHeartbeats 1000000 in
set_option maxRecDepth 100000 in
theorem c_X7_restart (Γ : gT) (l : Launch) (a : Nat → Nat) (b : Nat) (μ : Mst)  : Ci Γ l yX7_restart wsX7_restart rm_X7_restart [.ref (a b)] (modW Γ a b μ) ((mNow μ 640).toInt32) (modW Γ a b (hRestart μ)) := by
  refine Ci.of (cc := cX7_restart) (own := RX7) (nL := 2) (ret := (some .int)) (by decide +kernel) rfl rfl (Nat.le_of_ble_eq_true rfl) ?_
  intro p e s m args below meth c A Q H locs ls ha hAe hQ hx hb hml hr hts hown hlk hP hK hD hS hA hG hl
  have hh : Hd Γ p s m args c cX7_restart RX7 2 wsX7_restart A := ⟨⟨hx, hb, hml, hown, hts⟩, hK, hA, hG⟩
  have hl : lv_has ls 2 [(0, .ref (a b))] := hl
  refine lv_aload_n hx hb dX7_restart_0 rfl (lv_at hl 0 rfl) ?_
  refine va_get (D := gD Γ) (cl := vwCl) (tys := gTy Γ) (ci := 7) (v := .ref (a (b + 1))) (C := RX7) (T := TX7) (N := 18) hx hb hts iX7_restart_7 hown hK hP 0 rfl rfl 0 (Nat.le_of_ble_eq_true rfl) (hts (.fieldLink RX7 7 "DeadTimeLoopModel" "now" "[J") (List.mem_of_getElem? (i := 1) rfl)) (fun _ h9 => h9) rfl dX7_restart_1 ?_
  refine lv_sipush (v := 640) hx hb dX7_restart_4 (by decide) ?_
  refine ka_lald (D := gD Γ) (cl := vwCl) (tys := gTy Γ) hx hb hK hP 1 1 rfl rfl 640 (by decide) (by decide) (by decide) (v := ((mNow μ) 640)) rfl dX7_restart_7 ?_
  refine lv_l2i (v := ((mNow μ) 640).toInt32) hx hb dX7_restart_8 rfl ?_
  refine lv_istore_n (lv' := [(1, .int (((mNow μ) 640).toInt32)), (0, .ref (a b))]) hx hb dX7_restart_9 rfl hl (by decide) rfl (fun ls hl => ?_)
  refine lv_aload_n hx hb dX7_restart_10 rfl (lv_at hl 1 rfl) ?_
  obtain ⟨u_11, eu_11⟩ : ∃ z : Nat → Int64, z = mZeroN (mNow μ) 681 := ⟨_, rfl⟩
  have hM_11 : Cv Γ l yX7_clears wsX7_clears rm_X7_clears [.ref (a b)] (modW Γ a b μ) (modW Γ a b (u_11, (mAside μ), (mKept μ), (mKm μ), (mPar μ), (mParA μ), (mBef μ), (mUm μ), (mLow μ), (mHigh μ), (mNames μ), (mLen μ), (mText μ), (mPath μ), (mIdeal μ), (mSpot μ), (mWhich μ), (mNum μ))) := by rw [eu_11]; exact c_X7_clears Γ l a b μ
  refine ca_Vva hh hl.1 hM_11 (cwV 0 hts gX7_restart_X7_clears rfl rfl rfl (by decide +kernel) ⟨(Nat.le_of_ble_eq_true rfl), (Nat.le_of_ble_eq_true rfl)⟩) (As := []) (rest := []) rfl dX7_restart_11 rfl (Nat.le_of_ble_eq_true rfl) hP hD hS (q0 := 0) (ci := 7) rfl rfl rfl (wf := modW Γ a b (u_11, (mAside μ), (mKept μ), (mKm μ), (mPar μ), (mParA μ), (mBef μ), (mUm μ), (mLow μ), (mHigh μ), (mNames μ), (mLen μ), (mText μ), (mPath μ), (mIdeal μ), (mSpot μ), (mWhich μ), (mNum μ))) rfl ⟨Nat.zero_le _, Nat.zero_le _⟩ (fun H locs hP hD hS => ?_)
  refine lv_aload_n hx hb dX7_restart_14 rfl (lv_at hl 1 rfl) ?_
  refine lv_iconst (v := 0) hx hb dX7_restart_15 (by decide) ?_
  refine va_put (D := gD Γ) (cl := vwCl) (tys := gTy Γ) (ci := 7) (v := .int 0) (ty := tyX7 3) (C := RX7) (T := TX7) (N := 18) hx hb hts iX7_restart_7 tyX7 tyX7_ok nmX7 hown hK hP hD hS 0 rfl rfl 3 (Nat.le_of_ble_eq_true rfl) (hts (.fieldLink RX7 207 "DeadTimeLoopModel" "keptMany" "I") (List.mem_of_getElem? (i := 2) rfl)) (fun _ h9 => h9) rfl (tyX7_ok 3 (Nat.le_of_ble_eq_true rfl)) rfl rfl (Nat.le_of_ble_eq_true rfl) dX7_restart_16 (fun H locs hP hD hS => ?_)
  have hP : va_P (gD Γ) vwCl (modW Γ a b (u_11, (mAside μ), (mKept μ), 0, (mPar μ), (mParA μ), (mBef μ), (mUm μ), (mLow μ), (mHigh μ), (mNames μ), (mLen μ), (mText μ), (mPath μ), (mIdeal μ), (mSpot μ), (mWhich μ), (mNum μ))) H := hP
  have hD : va_D A (modW Γ a b (u_11, (mAside μ), (mKept μ), 0, (mPar μ), (mParA μ), (mBef μ), (mUm μ), (mLow μ), (mHigh μ), (mNames μ), (mLen μ), (mText μ), (mPath μ), (mIdeal μ), (mSpot μ), (mWhich μ), (mNum μ))) := hD
  refine lv_iload_n hx hb dX7_restart_19 rfl (lv_at hl 0 rfl) ?_
  exact re_i hQ ha hx hb hr hlk hAe hP hS dX7_restart_20 rfl (by simp only [hRestart, mPut_now, mPut_keptMany, ← eu_11])
