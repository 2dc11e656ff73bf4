def rm_X7_lettersAre : Room := { frames := 0, cells := 0, slots := 0, locals := 0 }
theorem iX7_lettersAre_7 : ∀ w ∈ u_ws RX7 TX7 18, w ∈ wsX7_lettersAre := fun w h => (List.mem_cons_of_mem _ (List.mem_append_right _ h))
set_option maxHeartbeats 1000000 in
set_option maxRecDepth 100000 in
theorem c_X7_lettersAre (Γ : gT) (l : Launch) (a : Nat → Nat) (b : Nat) (μ : Mst) (k : Int32) (w1 : Int32) (w2 : Int32) (w3 : Int32) (w4 : Int32) (hk : vp_in k 132) : Cv Γ l yX7_lettersAre wsX7_lettersAre rm_X7_lettersAre [.ref (a b), .int k, .int w1, .int w2, .int w3, .int w4] (modW Γ a b μ) (modW Γ a b (mPut_names μ (mLet (mNames μ) k w1 w2 w3 w4))) := by
  refine Cv.of (cc := cX7_lettersAre) (own := RX7) (nL := 6) (ret := none) (by decide +kernel) rfl rfl (Nat.le_of_ble_eq_true rfl) ?_
  intro p e s m args below meth c A Q H locs ls ha hAe hQ hx hb hml hr hts hown hlk hP hK hD hS hA hG hl
  have hh : Hd Γ p s m args c cX7_lettersAre RX7 6 wsX7_lettersAre A := ⟨⟨hx, hb, hml, hown, hts⟩, hK, hA, hG⟩
  have hl : lv_has ls 6 [(0, .ref (a b)), (1, .int k), (2, .int w1), (3, .int w2), (4, .int w3), (5, .int w4)] := hl
  obtain ⟨K, hK1, eK⟩ := vp_in_of hk (by decide)
  have ecl : k.toNatClampNeg = K := by rw [eK]; exact nI_clamp (by omega)
  refine lv_aload_n hx hb dX7_lettersAre_0 rfl (lv_at hl 0 rfl) ?_
  refine va_get (D := gD Γ) (cl := vwCl) (tys := gTy Γ) (ci := 7) (v := .ref (a (b + 9))) (C := RX7) (T := TX7) (N := 18) hx hb hts iX7_lettersAre_7 hown hK hP 0 rfl rfl 10 (Nat.le_of_ble_eq_true rfl) (hts (.fieldLink RX7 35 "DeadTimeLoopModel" "names" "[I") (List.mem_of_getElem? (i := 1) rfl)) (fun _ h9 => h9) rfl dX7_lettersAre_1 ?_
  refine lv_iload_n hx hb dX7_lettersAre_4 rfl (lv_at hl 1 rfl) ?_
  refine lv_iload_n hx hb dX7_lettersAre_5 rfl (lv_at hl 2 rfl) ?_
  refine ka_iast (D := gD Γ) (cl := vwCl) (tys := gTy Γ) hx hb hK hP hD hS 9 0 rfl rfl K eK (by omega) (by decide) (wf := modW Γ a b ((mNow μ), (mAside μ), (mKept μ), (mKm μ), (mPar μ), (mParA μ), (mBef μ), (mUm μ), (mLow μ), (mHigh μ), (upd (mNames μ) K w1), (mLen μ), (mText μ), (mPath μ), (mIdeal μ), (mSpot μ), (mWhich μ), (mNum μ))) rfl dX7_lettersAre_6 (fun H locs hP hD hS => ?_)
  refine lv_aload_n hx hb dX7_lettersAre_7 rfl (lv_at hl 0 rfl) ?_
  refine va_get (D := gD Γ) (cl := vwCl) (tys := gTy Γ) (ci := 7) (v := .ref (a (b + 9))) (C := RX7) (T := TX7) (N := 18) hx hb hts iX7_lettersAre_7 hown hK hP 0 rfl rfl 10 (Nat.le_of_ble_eq_true rfl) (hts (.fieldLink RX7 35 "DeadTimeLoopModel" "names" "[I") (List.mem_of_getElem? (i := 1) rfl)) (fun _ h9 => h9) rfl dX7_lettersAre_8 ?_
  refine lv_iload_n hx hb dX7_lettersAre_11 rfl (lv_at hl 1 rfl) ?_
  refine lv_iconst (v := 1) hx hb dX7_lettersAre_12 (by decide) ?_
  refine lv_iadd hx hb dX7_lettersAre_13 ?_
  refine lv_iload_n hx hb dX7_lettersAre_14 rfl (lv_at hl 3 rfl) ?_
  refine ka_iast (D := gD Γ) (cl := vwCl) (tys := gTy Γ) hx hb hK hP hD hS 9 0 rfl rfl (K + 1) (by rw [eK]; exact nI_add K 1) (by omega) (by decide) (wf := modW Γ a b ((mNow μ), (mAside μ), (mKept μ), (mKm μ), (mPar μ), (mParA μ), (mBef μ), (mUm μ), (mLow μ), (mHigh μ), (upd (upd (mNames μ) K w1) (K + 1) w2), (mLen μ), (mText μ), (mPath μ), (mIdeal μ), (mSpot μ), (mWhich μ), (mNum μ))) rfl dX7_lettersAre_15 (fun H locs hP hD hS => ?_)
  refine lv_aload_n hx hb dX7_lettersAre_16 rfl (lv_at hl 0 rfl) ?_
  refine va_get (D := gD Γ) (cl := vwCl) (tys := gTy Γ) (ci := 7) (v := .ref (a (b + 9))) (C := RX7) (T := TX7) (N := 18) hx hb hts iX7_lettersAre_7 hown hK hP 0 rfl rfl 10 (Nat.le_of_ble_eq_true rfl) (hts (.fieldLink RX7 35 "DeadTimeLoopModel" "names" "[I") (List.mem_of_getElem? (i := 1) rfl)) (fun _ h9 => h9) rfl dX7_lettersAre_17 ?_
  refine lv_iload_n hx hb dX7_lettersAre_20 rfl (lv_at hl 1 rfl) ?_
  refine lv_iconst (v := 2) hx hb dX7_lettersAre_21 (by decide) ?_
  refine lv_iadd hx hb dX7_lettersAre_22 ?_
  refine lv_iload hx hb dX7_lettersAre_23 (lv_at hl 4 rfl) ?_
  refine ka_iast (D := gD Γ) (cl := vwCl) (tys := gTy Γ) hx hb hK hP hD hS 9 0 rfl rfl (K + 2) (by rw [eK]; exact nI_add K 2) (by omega) (by decide) (wf := modW Γ a b ((mNow μ), (mAside μ), (mKept μ), (mKm μ), (mPar μ), (mParA μ), (mBef μ), (mUm μ), (mLow μ), (mHigh μ), (upd (upd (upd (mNames μ) K w1) (K + 1) w2) (K + 2) w3), (mLen μ), (mText μ), (mPath μ), (mIdeal μ), (mSpot μ), (mWhich μ), (mNum μ))) rfl dX7_lettersAre_25 (fun H locs hP hD hS => ?_)
  refine lv_aload_n hx hb dX7_lettersAre_26 rfl (lv_at hl 0 rfl) ?_
  refine va_get (D := gD Γ) (cl := vwCl) (tys := gTy Γ) (ci := 7) (v := .ref (a (b + 9))) (C := RX7) (T := TX7) (N := 18) hx hb hts iX7_lettersAre_7 hown hK hP 0 rfl rfl 10 (Nat.le_of_ble_eq_true rfl) (hts (.fieldLink RX7 35 "DeadTimeLoopModel" "names" "[I") (List.mem_of_getElem? (i := 1) rfl)) (fun _ h9 => h9) rfl dX7_lettersAre_27 ?_
  refine lv_iload_n hx hb dX7_lettersAre_30 rfl (lv_at hl 1 rfl) ?_
  refine lv_iconst (v := 3) hx hb dX7_lettersAre_31 (by decide) ?_
  refine lv_iadd hx hb dX7_lettersAre_32 ?_
  refine lv_iload hx hb dX7_lettersAre_33 (lv_at hl 5 rfl) ?_
  refine ka_iast (D := gD Γ) (cl := vwCl) (tys := gTy Γ) hx hb hK hP hD hS 9 0 rfl rfl (K + 3) (by rw [eK]; exact nI_add K 3) (by omega) (by decide) (wf := modW Γ a b ((mNow μ), (mAside μ), (mKept μ), (mKm μ), (mPar μ), (mParA μ), (mBef μ), (mUm μ), (mLow μ), (mHigh μ), (upd (upd (upd (upd (mNames μ) K w1) (K + 1) w2) (K + 2) w3) (K + 3) w4), (mLen μ), (mText μ), (mPath μ), (mIdeal μ), (mSpot μ), (mWhich μ), (mNum μ))) rfl dX7_lettersAre_35 (fun H locs hP hD hS => ?_)
  exact re_v hQ ha hx hb hr hlk hAe hP hS dX7_lettersAre_36 (by rw [mLet, ecl] <;> rfl)
def rm_X7_goesOn : Room := { frames := 1, cells := 0, slots := 0, locals := 25 }
set_option maxHeartbeats 1000000 in
set_option maxRecDepth 100000 in
theorem c_X7_goesOn (Γ : gT) (l : Launch) (a : Nat → Nat) (b : Nat) (μ : Mst) (k : Int32) (w1 : Int32) (w2 : Int32) (w3 : Int32) (w4 : Int32) (hk : vp_in k 15) : Cv Γ l yX7_goesOn wsX7_goesOn rm_X7_goesOn [.ref (a b), .int k, .int w1, .int w2, .int w3, .int w4] (modW Γ a b μ) (modW Γ a b (hGoes μ k w1 w2 w3 w4)) := by
  refine Cv.of (cc := cX7_goesOn) (own := RX7) (nL := 6) (ret := none) (by decide +kernel) rfl rfl (Nat.le_of_ble_eq_true rfl) ?_
  intro p e s m args below meth c A Q H locs ls ha hAe hQ hx hb hml hr hts hown hlk hP hK hD hS hA hG hl
  have hh : Hd Γ p s m args c cX7_goesOn RX7 6 wsX7_goesOn A := ⟨⟨hx, hb, hml, hown, hts⟩, hK, hA, hG⟩
  have hl : lv_has ls 6 [(0, .ref (a b)), (1, .int k), (2, .int w1), (3, .int w2), (4, .int w3), (5, .int w4)] := hl
  obtain ⟨K, hK1, eK⟩ := vp_in_of hk (by decide)
  have ecl : k.toNatClampNeg = K := by rw [eK]; exact nI_clamp (by omega)
  refine lv_aload_n hx hb dX7_goesOn_0 rfl (lv_at hl 0 rfl) ?_
  refine lv_bipush (v := 9) hx hb dX7_goesOn_1 (by decide) ?_
  refine lv_iload_n hx hb dX7_goesOn_3 rfl (lv_at hl 1 rfl) ?_
  refine lv_imul hx hb dX7_goesOn_4 ?_
  refine lv_iconst (v := 4) hx hb dX7_goesOn_5 (by decide) ?_
  refine lv_iadd hx hb dX7_goesOn_6 ?_
  refine lv_iload_n hx hb dX7_goesOn_7 rfl (lv_at hl 2 rfl) ?_
  refine lv_iload_n hx hb dX7_goesOn_8 rfl (lv_at hl 3 rfl) ?_
  refine lv_iload hx hb dX7_goesOn_9 (lv_at hl 4 rfl) ?_
  refine lv_iload hx hb dX7_goesOn_11 (lv_at hl 5 rfl) ?_
  obtain ⟨u_13, eu_13⟩ : ∃ z : Nat → Int32, z = mLet (mNames μ) ((9 * k) + 4) w1 w2 w3 w4 := ⟨_, rfl⟩
  have hM_13 : Cv Γ l yX7_lettersAre wsX7_lettersAre rm_X7_lettersAre [.ref (a b), .int ((9 * k) + 4), .int w1, .int w2, .int w3, .int w4] (modW Γ a b μ) (modW Γ a b ((mNow μ), (mAside μ), (mKept μ), (mKm μ), (mPar μ), (mParA μ), (mBef μ), (mUm μ), (mLow μ), (mHigh μ), u_13, (mLen μ), (mText μ), (mPath μ), (mIdeal μ), (mSpot μ), (mWhich μ), (mNum μ))) := by rw [eu_13]; exact c_X7_lettersAre Γ l a b μ ((9 * k) + 4) w1 w2 w3 w4 (by rw [eK]; show vp_in (nI 9 * nI K + nI 4) 132; rw [keep_ix]; exact vp_in_nI (by omega) (by decide))
  refine ca_Vva hh hl.1 hM_13 (cwV 5 hts gX7_goesOn_X7_lettersAre rfl rfl rfl (by decide +kernel) ⟨(Nat.le_of_ble_eq_true rfl), (Nat.le_of_ble_eq_true rfl)⟩) (As := [.int ((9 * k) + 4), .int w1, .int w2, .int w3, .int w4]) (rest := []) rfl dX7_goesOn_13 rfl (Nat.le_of_ble_eq_true rfl) hP hD hS (q0 := 0) (ci := 7) rfl rfl rfl (wf := modW Γ a b ((mNow μ), (mAside μ), (mKept μ), (mKm μ), (mPar μ), (mParA μ), (mBef μ), (mUm μ), (mLow μ), (mHigh μ), u_13, (mLen μ), (mText μ), (mPath μ), (mIdeal μ), (mSpot μ), (mWhich μ), (mNum μ))) rfl ⟨Nat.zero_le _, Nat.zero_le _⟩ (fun H locs hP hD hS => ?_)
  exact re_v hQ ha hx hb hr hlk hAe hP hS dX7_goesOn_16 (by rw [hGoes, eu_13] <;> rfl)
def rm_X7_is : Room := { frames := 1, cells := 0, slots := 0, locals := 25 }
theorem iX7_is_7 : ∀ w ∈ u_ws RX7 TX7 18, w ∈ wsX7_is := fun w h => (List.mem_cons_of_mem _ (List.mem_append_right _ h))
set_option maxHeartbeats 1000000 in
set_option maxRecDepth 100000 in
theorem c_X7_is (Γ : gT) (l : Launch) (a : Nat → Nat) (b : Nat) (μ : Mst) (k : Int32) (lo : Int32) (hi : Int32) (v : Int32) (w1 : Int32) (w2 : Int32) (w3 : Int32) (w4 : Int32) (hk : vp_in k 15) : Cv Γ l yX7_is wsX7_is rm_X7_is [.ref (a b), .int k, .int lo, .int hi, .int v, .int w1, .int w2, .int w3, .int w4] (modW Γ a b μ) (modW Γ a b (hIs μ k lo hi v w1 w2 w3 w4)) := by
  refine Cv.of (cc := cX7_is) (own := RX7) (nL := 9) (ret := none) (by decide +kernel) rfl rfl (Nat.le_of_ble_eq_true rfl) ?_
  intro p e s m args below meth c A Q H locs ls ha hAe hQ hx hb hml hr hts hown hlk hP hK hD hS hA hG hl
  have hh : Hd Γ p s m args c cX7_is RX7 9 wsX7_is A := ⟨⟨hx, hb, hml, hown, hts⟩, hK, hA, hG⟩
  have hl : lv_has ls 9 [(0, .ref (a b)), (1, .int k), (2, .int lo), (3, .int hi), (4, .int v), (5, .int w1), (6, .int w2), (7, .int w3), (8, .int w4)] := hl
  obtain ⟨K, hK1, eK⟩ := vp_in_of hk (by decide)
  have ecl : k.toNatClampNeg = K := by rw [eK]; exact nI_clamp (by omega)
  refine lv_aload_n hx hb dX7_is_0 rfl (lv_at hl 0 rfl) ?_
  refine va_get (D := gD Γ) (cl := vwCl) (tys := gTy Γ) (ci := 7) (v := .ref (a (b + 7))) (C := RX7) (T := TX7) (N := 18) hx hb hts iX7_is_7 hown hK hP 0 rfl rfl 8 (Nat.le_of_ble_eq_true rfl) (hts (.fieldLink RX7 29 "DeadTimeLoopModel" "low" "[I") (List.mem_of_getElem? (i := 1) rfl)) (fun _ h9 => h9) rfl dX7_is_1 ?_
  refine lv_iload_n hx hb dX7_is_4 rfl (lv_at hl 1 rfl) ?_
  refine lv_iload_n hx hb dX7_is_5 rfl (lv_at hl 2 rfl) ?_
  refine ka_iast (D := gD Γ) (cl := vwCl) (tys := gTy Γ) hx hb hK hP hD hS 7 0 rfl rfl K eK hK1 (by decide) (wf := modW Γ a b ((mNow μ), (mAside μ), (mKept μ), (mKm μ), (mPar μ), (mParA μ), (mBef μ), (mUm μ), (upd (mLow μ) K lo), (mHigh μ), (mNames μ), (mLen μ), (mText μ), (mPath μ), (mIdeal μ), (mSpot μ), (mWhich μ), (mNum μ))) rfl dX7_is_6 (fun H locs hP hD hS => ?_)
  refine lv_aload_n hx hb dX7_is_7 rfl (lv_at hl 0 rfl) ?_
  refine va_get (D := gD Γ) (cl := vwCl) (tys := gTy Γ) (ci := 7) (v := .ref (a (b + 8))) (C := RX7) (T := TX7) (N := 18) hx hb hts iX7_is_7 hown hK hP 0 rfl rfl 9 (Nat.le_of_ble_eq_true rfl) (hts (.fieldLink RX7 32 "DeadTimeLoopModel" "high" "[I") (List.mem_of_getElem? (i := 2) rfl)) (fun _ h9 => h9) rfl dX7_is_8 ?_
  refine lv_iload_n hx hb dX7_is_11 rfl (lv_at hl 1 rfl) ?_
  refine lv_iload_n hx hb dX7_is_12 rfl (lv_at hl 3 rfl) ?_
  refine ka_iast (D := gD Γ) (cl := vwCl) (tys := gTy Γ) hx hb hK hP hD hS 8 0 rfl rfl K eK hK1 (by decide) (wf := modW Γ a b ((mNow μ), (mAside μ), (mKept μ), (mKm μ), (mPar μ), (mParA μ), (mBef μ), (mUm μ), (upd (mLow μ) K lo), (upd (mHigh μ) K hi), (mNames μ), (mLen μ), (mText μ), (mPath μ), (mIdeal μ), (mSpot μ), (mWhich μ), (mNum μ))) rfl dX7_is_13 (fun H locs hP hD hS => ?_)
  refine lv_aload_n hx hb dX7_is_14 rfl (lv_at hl 0 rfl) ?_
  refine va_get (D := gD Γ) (cl := vwCl) (tys := gTy Γ) (ci := 7) (v := .ref (a (b + 4))) (C := RX7) (T := TX7) (N := 18) hx hb hts iX7_is_7 hown hK hP 0 rfl rfl 4 (Nat.le_of_ble_eq_true rfl) (hts (.fieldLink RX7 19 "DeadTimeLoopModel" "par" "[I") (List.mem_of_getElem? (i := 3) rfl)) (fun _ h9 => h9) rfl dX7_is_15 ?_
  refine lv_iload_n hx hb dX7_is_18 rfl (lv_at hl 1 rfl) ?_
  refine lv_iload hx hb dX7_is_19 (lv_at hl 4 rfl) ?_
  refine ka_iast (D := gD Γ) (cl := vwCl) (tys := gTy Γ) hx hb hK hP hD hS 4 0 rfl rfl K eK hK1 (by decide) (wf := modW Γ a b ((mNow μ), (mAside μ), (mKept μ), (mKm μ), (upd (mPar μ) K v), (mParA μ), (mBef μ), (mUm μ), (upd (mLow μ) K lo), (upd (mHigh μ) K hi), (mNames μ), (mLen μ), (mText μ), (mPath μ), (mIdeal μ), (mSpot μ), (mWhich μ), (mNum μ))) rfl dX7_is_21 (fun H locs hP hD hS => ?_)
  refine lv_aload_n hx hb dX7_is_22 rfl (lv_at hl 0 rfl) ?_
  refine lv_bipush (v := 9) hx hb dX7_is_23 (by decide) ?_
  refine lv_iload_n hx hb dX7_is_25 rfl (lv_at hl 1 rfl) ?_
  refine lv_imul hx hb dX7_is_26 ?_
  refine lv_iload hx hb dX7_is_27 (lv_at hl 5 rfl) ?_
  refine lv_iload hx hb dX7_is_29 (lv_at hl 6 rfl) ?_
  refine lv_iload hx hb dX7_is_31 (lv_at hl 7 rfl) ?_
  refine lv_iload hx hb dX7_is_33 (lv_at hl 8 rfl) ?_
  obtain ⟨u_35, eu_35⟩ : ∃ z : Nat → Int32, z = mLet (mNames μ) (9 * k) w1 w2 w3 w4 := ⟨_, rfl⟩
  have hM_35 : Cv Γ l yX7_lettersAre wsX7_lettersAre rm_X7_lettersAre [.ref (a b), .int (9 * k), .int w1, .int w2, .int w3, .int w4] (modW Γ a b ((mNow μ), (mAside μ), (mKept μ), (mKm μ), (upd (mPar μ) K v), (mParA μ), (mBef μ), (mUm μ), (upd (mLow μ) K lo), (upd (mHigh μ) K hi), (mNames μ), (mLen μ), (mText μ), (mPath μ), (mIdeal μ), (mSpot μ), (mWhich μ), (mNum μ))) (modW Γ a b ((mNow μ), (mAside μ), (mKept μ), (mKm μ), (upd (mPar μ) K v), (mParA μ), (mBef μ), (mUm μ), (upd (mLow μ) K lo), (upd (mHigh μ) K hi), u_35, (mLen μ), (mText μ), (mPath μ), (mIdeal μ), (mSpot μ), (mWhich μ), (mNum μ))) := by rw [eu_35]; exact c_X7_lettersAre Γ l a b ((mNow μ), (mAside μ), (mKept μ), (mKm μ), (upd (mPar μ) K v), (mParA μ), (mBef μ), (mUm μ), (upd (mLow μ) K lo), (upd (mHigh μ) K hi), (mNames μ), (mLen μ), (mText μ), (mPath μ), (mIdeal μ), (mSpot μ), (mWhich μ), (mNum μ)) (9 * k) w1 w2 w3 w4 (by rw [eK]; show vp_in (nI 9 * nI K) 132; rw [pk_mul]; exact vp_in_nI (by omega) (by decide))
  refine ca_Vva hh hl.1 hM_35 (cwV 5 hts gX7_is_X7_lettersAre rfl rfl rfl (by decide +kernel) ⟨(Nat.le_of_ble_eq_true rfl), (Nat.le_of_ble_eq_true rfl)⟩) (As := [.int (9 * k), .int w1, .int w2, .int w3, .int w4]) (rest := []) rfl dX7_is_35 rfl (Nat.le_of_ble_eq_true rfl) hP hD hS (q0 := 0) (ci := 7) rfl rfl rfl (wf := modW Γ a b ((mNow μ), (mAside μ), (mKept μ), (mKm μ), (upd (mPar μ) K v), (mParA μ), (mBef μ), (mUm μ), (upd (mLow μ) K lo), (upd (mHigh μ) K hi), u_35, (mLen μ), (mText μ), (mPath μ), (mIdeal μ), (mSpot μ), (mWhich μ), (mNum μ))) rfl ⟨Nat.zero_le _, Nat.zero_le _⟩ (fun H locs hP hD hS => ?_)
  exact re_v hQ ha hx hb hr hlk hAe hP hS dX7_is_38 (by rw [hIs, eu_35, ecl] <;> rfl)
