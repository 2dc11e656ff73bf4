def rm_X7_placeOf : Room := { frames := 0, cells := 0, slots := 0, locals := 0 }
theorem iX7_placeOf_7 : ∀ w ∈ u_ws RX7 TX7 18, w ∈ wsX7_placeOf := fun w h => (List.mem_cons_of_mem _ (List.mem_append_right _ h))
set_option maxHeartbeats 1000000 in
set_option maxRecDepth 100000 in
theorem c_X7_placeOf (Γ : gT) (l : Launch) (a : Nat → Nat) (b : Nat) (μ : Mst) (sg : Int32) (hok : mOk (mNow μ)) : Ci Γ l yX7_placeOf wsX7_placeOf rm_X7_placeOf [.ref (a b), .int sg] (modW Γ a b μ) (mPlace (mNow μ) sg) (modW Γ a b μ) := by
  refine Ci.of (cc := cX7_placeOf) (own := RX7) (nL := 3) (ret := (some .int)) (by decide +kernel) rfl rfl (Nat.le_of_ble_eq_true rfl) ?_
  intro p e s m args below meth c A Q H locs ls ha hAe hQ hx hb hml hr hts hown hlk hP hK hD hS hA hG hl
  have hh : Hd Γ p s m args c cX7_placeOf RX7 3 wsX7_placeOf A := ⟨⟨hx, hb, hml, hown, hts⟩, hK, hA, hG⟩
  have hl : lv_has ls 3 [(0, .ref (a b)), (1, .int sg)] := hl
  obtain ⟨hT, wn, hW4, hW, hs⟩ := hok
  refine lv_iconst (v := 0) hx hb dX7_placeOf_0 (by decide) ?_
  refine lv_istore_n (lv' := [(2, .int 0), (0, .ref (a b)), (1, .int sg)]) hx hb dX7_placeOf_1 rfl hl (by decide) rfl (fun ls hl => ?_)
  have hJ_2 : ∀ n : Nat, ∀ (j : Nat) (y : Int32), (y = nI j) → (j ≤ 4) → (5 ≤ j + n) → (mPlaceN (mNow μ) sg n j = mPlace (mNow μ) sg) → ∀ (H : Heap) (locs : List Loc) (ls : Array Slot), va_P (gD Γ) vwCl (modW Γ a b μ) H → va_D A (modW Γ a b μ) → va_S A s.heap H locs → lv_has ls 3 [(0, .ref (a b)), (1, .int sg), (2, .int y)] → W p l e rm_X7_placeOf s m args below meth c H locs 0 0 Q (F0 m 2 ls []) := by
    intro n
    induction n with
    | zero =>
      intro j y ey hj hn hg
      omega
    | succ n ih =>
      intro j y ey hj hn hg H locs ls hP hD hS hl
      refine lv_iload_n hx hb dX7_placeOf_2 rfl (lv_at hl 2 rfl) ?_
      refine lv_i2l (v := y.toInt64) hx hb dX7_placeOf_3 rfl ?_
      refine lv_aload_n hx hb dX7_placeOf_4 rfl (lv_at hl 0 rfl) ?_
      refine va_get (D := gD Γ) (cl := vwCl) (tys := gTy Γ) (ci := 7) (v := .ref (a (b + 1))) (C := RX7) (T := TX7) (N := 18) hx hb hts iX7_placeOf_7 hown hK hP 0 rfl rfl 0 (Nat.le_of_ble_eq_true rfl) (hts (.fieldLink RX7 7 "DeadTimeLoopModel" "now" "[J") (List.mem_of_getElem? (i := 1) rfl)) (fun _ h9 => h9) rfl dX7_placeOf_5 ?_
      refine lv_sipush (v := 660) hx hb dX7_placeOf_8 (by decide) ?_
      refine ka_lald (D := gD Γ) (cl := vwCl) (tys := gTy Γ) hx hb hK hP 1 1 rfl rfl 660 (by decide) (by decide) (by decide) (v := ((mNow μ) 660)) rfl dX7_placeOf_11 ?_
      refine W.lcmp hx hb dX7_placeOf_12 ?_
      refine lv_if_ge (tgt := 42) hx hb dX7_placeOf_13 (by decide) (fun c_13 => ?_) (fun c_13 => ?_)
      · -- yes
        have c_13 := (lg_cmp_ge _ _).mp c_13
        refine lv_ldc hx hb hown (hts (.constant RX7 82 (-2000000004)) (List.mem_of_getElem? (i := 2) rfl)) dX7_placeOf_42 ?_
        exact re_i hQ ha hx hb hr hlk hAe hP hS dX7_placeOf_44 (by rw [← hg, mPlaceN_s]; subst ey; (try first | rw [if_pos c_13] | rw [if_neg c_13])) rfl
      · -- no
        have c_13 := mt (lg_cmp_ge _ _).mpr c_13
        have hjW : j < wn := ltW (by rw [← hW, ← ey]; exact c_13) (by omega) (by omega)
        refine lv_aload_n hx hb dX7_placeOf_16 rfl (lv_at hl 0 rfl) ?_
        refine va_get (D := gD Γ) (cl := vwCl) (tys := gTy Γ) (ci := 7) (v := .ref (a (b + 1))) (C := RX7) (T := TX7) (N := 18) hx hb hts iX7_placeOf_7 hown hK hP 0 rfl rfl 0 (Nat.le_of_ble_eq_true rfl) (hts (.fieldLink RX7 7 "DeadTimeLoopModel" "now" "[J") (List.mem_of_getElem? (i := 1) rfl)) (fun _ h9 => h9) rfl dX7_placeOf_17 ?_
        refine lv_sipush (v := 661) hx hb dX7_placeOf_20 (by decide) ?_
        refine lv_iconst (v := 5) hx hb dX7_placeOf_23 (by decide) ?_
        refine lv_iload_n hx hb dX7_placeOf_24 rfl (lv_at hl 2 rfl) ?_
        refine lv_imul hx hb dX7_placeOf_25 ?_
        refine lv_iadd hx hb dX7_placeOf_26 ?_
        refine ka_lald (D := gD Γ) (cl := vwCl) (tys := gTy Γ) hx hb hK hP 1 1 rfl rfl (661 + 5 * j) (by rw [ey]; exact wat_ix j) (by omega) (by decide) (v := ((mNow μ) (661 + 5 * j))) rfl dX7_placeOf_27 ?_
        refine lv_iload_n hx hb dX7_placeOf_28 rfl (lv_at hl 1 rfl) ?_
        refine lv_i2l (v := sg.toInt64) hx hb dX7_placeOf_29 rfl ?_
        refine W.lcmp hx hb dX7_placeOf_30 ?_
        refine lv_if_ne (tgt := 36) hx hb dX7_placeOf_31 (by decide) (fun c_31 => ?_) (fun c_31 => ?_)
        · -- yes
          have c_31 := mt (lg_cmp_eq _ _).mpr c_31
          refine lv_iinc (v := (y + 1)) (lv' := [(2, .int (y + 1)), (0, .ref (a b)), (1, .int sg)]) hx hb dX7_placeOf_36 hl (k := 2) rfl rfl (by decide) rfl (fun ls hl => ?_)
          refine lv_goto (tgt := 2) hx hb dX7_placeOf_39 (by decide) ?_
          exact ih (j + 1) _ (by rw [ey]; exact nI_1 j) (by omega) (by omega) (by rw [← hg, mPlaceN_s]; subst ey; (try first | rw [if_pos c_13] | rw [if_neg c_13]); (try first | rw [if_pos c_31] | rw [if_neg c_31])) _ _ _ hP hD hS (lv_sub hl [1, 2, 0] rfl)
        · -- no
          have c_31 := (lg_cmp_eq _ _).mp c_31
          refine lv_iload_n hx hb dX7_placeOf_34 rfl (lv_at hl 2 rfl) ?_
          exact re_i hQ ha hx hb hr hlk hAe hP hS dX7_placeOf_35 (by rw [← hg, mPlaceN_s]; subst ey; (try first | rw [if_pos c_13] | rw [if_neg c_13]); (try first | rw [if_pos c_31] | rw [if_neg c_31])) rfl
  exact hJ_2 5 0 0 rfl (by omega) (by omega) rfl _ _ _ hP hD hS (lv_sub hl [1, 2, 0] rfl)
def rm_X7_watch : Room := { frames := 2, cells := 0, slots := 0, locals := 45 }
theorem iX7_watch_7 : ∀ w ∈ u_ws RX7 TX7 18, w ∈ wsX7_watch := fun w h => (List.mem_cons_of_mem _ (List.mem_append_right _ h))
set_option maxHeartbeats 1000000 in
set_option maxRecDepth 100000 in
theorem c_X7_watch (Γ : gT) (l : Launch) (a : Nat → Nat) (b : Nat) (μ : Mst) (s1 : Int32) (hok : mOk (mNow μ)) : Ci Γ l yX7_watch wsX7_watch rm_X7_watch [.ref (a b), .int s1] (modW Γ a b μ) (jWatch μ s1) (modW Γ a b (hWatch μ s1)) := by
  refine Ci.of (cc := cX7_watch) (own := RX7) (nL := 3) (ret := (some .int)) (by decide +kernel) rfl rfl (Nat.le_of_ble_eq_true rfl) ?_
  intro p e s m args below meth c A Q H locs ls ha hAe hQ hx hb hml hr hts hown hlk hP hK hD hS hA hG hl
  have hh : Hd Γ p s m args c cX7_watch RX7 3 wsX7_watch A := ⟨⟨hx, hb, hml, hown, hts⟩, hK, hA, hG⟩
  have hl : lv_has ls 3 [(0, .ref (a b)), (1, .int s1)] := hl
  refine lv_iload_n hx hb dX7_watch_0 rfl (lv_at hl 1 rfl) ?_
  refine ca_Si hh hl.1 (c_X7_isSignal Γ l s1) (va_cwS 1 hts gX7_watch_X7_isSignal rfl rfl rfl (by decide +kernel) ⟨(Nat.le_of_ble_eq_true rfl), (Nat.le_of_ble_eq_true rfl)⟩) (As := [.int s1]) (rest := []) rfl dX7_watch_1 rfl (Nat.le_of_ble_eq_true rfl) hP hD hS ⟨Nat.zero_le _, Nat.zero_le _⟩ (fun H locs hP hS => ?_)
  refine lv_if_ne (tgt := 10) hx hb dX7_watch_4 (by decide) (fun c_4 => ?_) (fun c_4 => ?_)
  · -- yes
    refine lv_aload_n hx hb dX7_watch_10 rfl (lv_at hl 0 rfl) ?_
    refine lv_iload_n hx hb dX7_watch_11 rfl (lv_at hl 1 rfl) ?_
    refine ca_Via hh hl.1 (c_X7_placeOf Γ l a b μ s1 hok) (cwV 1 hts gX7_watch_X7_placeOf rfl rfl rfl (by decide +kernel) ⟨(Nat.le_of_ble_eq_true rfl), (Nat.le_of_ble_eq_true rfl)⟩) (As := [.int s1]) (rest := []) rfl dX7_watch_12 rfl (Nat.le_of_ble_eq_true rfl) hP hD hS (q0 := 0) (ci := 7) rfl rfl rfl (wf := modW Γ a b μ) rfl ⟨Nat.zero_le _, Nat.zero_le _⟩ (fun H locs hP hD hS => ?_)
    refine lv_istore_n (lv' := [(2, .int (mPlace (mNow μ) s1)), (0, .ref (a b)), (1, .int s1)]) hx hb dX7_watch_15 rfl hl (by decide) rfl (fun ls hl => ?_)
    refine lv_iload_n hx hb dX7_watch_16 rfl (lv_at hl 0 rfl) ?_
    refine lv_if_ge (tgt := 38) hx hb dX7_watch_17 (by decide) (fun c_17 => ?_) (fun c_17 => ?_)
    · -- yes
      refine lv_iload_n hx hb dX7_watch_38 rfl (lv_at hl 0 rfl) ?_
      refine lv_if_ge (tgt := 64) hx hb dX7_watch_39 (by decide) (fun _ => ?_) (fun c => absurd c_17 c)
      refine lv_aload_n hx hb dX7_watch_64 rfl (lv_at hl 1 rfl) ?_
      refine va_get (D := gD Γ) (cl := vwCl) (tys := gTy Γ) (ci := 7) (v := .ref (a (b + 1))) (C := RX7) (T := TX7) (N := 18) hx hb hts iX7_watch_7 hown hK hP 0 rfl rfl 0 (Nat.le_of_ble_eq_true rfl) (hts (.fieldLink RX7 7 "DeadTimeLoopModel" "now" "[J") (List.mem_of_getElem? (i := 2) rfl)) (fun _ h9 => h9) rfl dX7_watch_65 ?_
      refine lv_sipush (v := 661) hx hb dX7_watch_68 (by decide) ?_
      refine lv_iconst (v := 5) hx hb dX7_watch_71 (by decide) ?_
      refine lv_iload_n hx hb dX7_watch_72 rfl (lv_at hl 0 rfl) ?_
      refine lv_imul hx hb dX7_watch_73 ?_
      refine lv_iadd hx hb dX7_watch_74 ?_
      refine lv_iload_n hx hb dX7_watch_75 rfl (lv_at hl 2 rfl) ?_
      refine lv_i2l (v := s1.toInt64) hx hb dX7_watch_76 rfl ?_
      refine ka_last (D := gD Γ) (cl := vwCl) (tys := gTy Γ) hx hb hK hP hD hS 1 1 rfl rfl (661 + 5 * (mPlace (mNow μ) s1).toNatClampNeg) (wpl_ix (mPlace_in hok c_17)) (by have := in_lt (mPlace_in hok c_17); omega) (by decide) (wf := modW Γ a b ((vp_updL (mNow μ) (661 + 5 * (mPlace (mNow μ) s1).toNatClampNeg) (s1.toInt64)), (mAside μ), (mKept μ), (mKm μ), (mPar μ), (mParA μ), (mBef μ), (mUm μ), (mLow μ), (mHigh μ), (mNames μ), (mLen μ), (mText μ), (mPath μ), (mIdeal μ), (mSpot μ), (mWhich μ), (mNum μ))) rfl dX7_watch_77 (fun H locs hP hD hS => ?_)
      refine lv_aload_n hx hb dX7_watch_78 rfl (lv_at hl 1 rfl) ?_
      refine va_get (D := gD Γ) (cl := vwCl) (tys := gTy Γ) (ci := 7) (v := .ref (a (b + 1))) (C := RX7) (T := TX7) (N := 18) hx hb hts iX7_watch_7 hown hK hP 0 rfl rfl 0 (Nat.le_of_ble_eq_true rfl) (hts (.fieldLink RX7 7 "DeadTimeLoopModel" "now" "[J") (List.mem_of_getElem? (i := 2) rfl)) (fun _ h9 => h9) rfl dX7_watch_79 ?_
      refine lv_sipush (v := 661) hx hb dX7_watch_82 (by decide) ?_
      refine lv_iconst (v := 5) hx hb dX7_watch_85 (by decide) ?_
      refine lv_iload_n hx hb dX7_watch_86 rfl (lv_at hl 0 rfl) ?_
      refine lv_imul hx hb dX7_watch_87 ?_
      refine lv_iadd hx hb dX7_watch_88 ?_
      refine lv_iconst (v := 1) hx hb dX7_watch_89 (by decide) ?_
      refine lv_iadd hx hb dX7_watch_90 ?_
      refine lv_lconst (v := 0) hx hb dX7_watch_91 (by decide) ?_
      refine ka_last (D := gD Γ) (cl := vwCl) (tys := gTy Γ) hx hb hK hP hD hS 1 1 rfl rfl (661 + 5 * (mPlace (mNow μ) s1).toNatClampNeg + 1) (wpl_ix1 (mPlace_in hok c_17)) (by have := in_lt (mPlace_in hok c_17); omega) (by decide) (wf := modW Γ a b ((vp_updL (vp_updL (mNow μ) (661 + 5 * (mPlace (mNow μ) s1).toNatClampNeg) (s1.toInt64)) (661 + 5 * (mPlace (mNow μ) s1).toNatClampNeg + 1) 0), (mAside μ), (mKept μ), (mKm μ), (mPar μ), (mParA μ), (mBef μ), (mUm μ), (mLow μ), (mHigh μ), (mNames μ), (mLen μ), (mText μ), (mPath μ), (mIdeal μ), (mSpot μ), (mWhich μ), (mNum μ))) rfl dX7_watch_92 (fun H locs hP hD hS => ?_)
      refine lv_aload_n hx hb dX7_watch_93 rfl (lv_at hl 1 rfl) ?_
      refine va_get (D := gD Γ) (cl := vwCl) (tys := gTy Γ) (ci := 7) (v := .ref (a (b + 1))) (C := RX7) (T := TX7) (N := 18) hx hb hts iX7_watch_7 hown hK hP 0 rfl rfl 0 (Nat.le_of_ble_eq_true rfl) (hts (.fieldLink RX7 7 "DeadTimeLoopModel" "now" "[J") (List.mem_of_getElem? (i := 2) rfl)) (fun _ h9 => h9) rfl dX7_watch_94 ?_
      refine lv_sipush (v := 660) hx hb dX7_watch_97 (by decide) ?_
      refine ka_lald (D := gD Γ) (cl := vwCl) (tys := gTy Γ) hx hb hK hP 1 1 rfl rfl 660 (by decide) (by decide) (by decide) (v := ((vp_updL (vp_updL (mNow μ) (661 + 5 * (mPlace (mNow μ) s1).toNatClampNeg) (s1.toInt64)) (661 + 5 * (mPlace (mNow μ) s1).toNatClampNeg + 1) 0) 660)) rfl dX7_watch_100 ?_
      refine lv_l2i (v := ((vp_updL (vp_updL (mNow μ) (661 + 5 * (mPlace (mNow μ) s1).toNatClampNeg) (s1.toInt64)) (661 + 5 * (mPlace (mNow μ) s1).toNatClampNeg + 1) 0) 660).toInt32) hx hb dX7_watch_101 rfl ?_
      exact re_i hQ ha hx hb hr hlk hAe hP hS dX7_watch_102 (by simp only [jWatch, jWatch1, mWatchAt, c_4, c_17, if_true, if_false]) (by simp only [hWatch, mWatchRow, mWatchAt, mPut_now, c_4, c_17, if_true, if_false])
    · -- no
      refine lv_aload_n hx hb dX7_watch_20 rfl (lv_at hl 1 rfl) ?_
      refine va_get (D := gD Γ) (cl := vwCl) (tys := gTy Γ) (ci := 7) (v := .ref (a (b + 1))) (C := RX7) (T := TX7) (N := 18) hx hb hts iX7_watch_7 hown hK hP 0 rfl rfl 0 (Nat.le_of_ble_eq_true rfl) (hts (.fieldLink RX7 7 "DeadTimeLoopModel" "now" "[J") (List.mem_of_getElem? (i := 2) rfl)) (fun _ h9 => h9) rfl dX7_watch_21 ?_
      refine lv_sipush (v := 660) hx hb dX7_watch_24 (by decide) ?_
      refine ka_lald (D := gD Γ) (cl := vwCl) (tys := gTy Γ) hx hb hK hP 1 1 rfl rfl 660 (by decide) (by decide) (by decide) (v := ((mNow μ) 660)) rfl dX7_watch_27 ?_
      refine lv_ldc2 hx hb hown (hts (.constantLong RX7 213 (4)) (List.mem_of_getElem? (i := 3) rfl)) dX7_watch_28 ?_
      refine W.lcmp hx hb dX7_watch_31 ?_
      refine lv_if_ne (tgt := 38) hx hb dX7_watch_32 (by decide) (fun c_32 => ?_) (fun c_32 => ?_)
      · -- yes
        have c_32 := mt (lg_cmp_eq _ _).mpr c_32
        refine lv_iload_n hx hb dX7_watch_38 rfl (lv_at hl 0 rfl) ?_
        refine lv_if_ge (tgt := 64) hx hb dX7_watch_39 (by decide) (fun c => absurd c c_17) (fun _ => ?_)
        refine lv_aload_n hx hb dX7_watch_42 rfl (lv_at hl 1 rfl) ?_
        refine va_get (D := gD Γ) (cl := vwCl) (tys := gTy Γ) (ci := 7) (v := .ref (a (b + 1))) (C := RX7) (T := TX7) (N := 18) hx hb hts iX7_watch_7 hown hK hP 0 rfl rfl 0 (Nat.le_of_ble_eq_true rfl) (hts (.fieldLink RX7 7 "DeadTimeLoopModel" "now" "[J") (List.mem_of_getElem? (i := 2) rfl)) (fun _ h9 => h9) rfl dX7_watch_43 ?_
        refine lv_sipush (v := 660) hx hb dX7_watch_46 (by decide) ?_
        refine ka_lald (D := gD Γ) (cl := vwCl) (tys := gTy Γ) hx hb hK hP 1 1 rfl rfl 660 (by decide) (by decide) (by decide) (v := ((mNow μ) 660)) rfl dX7_watch_49 ?_
        refine lv_l2i (v := ((mNow μ) 660).toInt32) hx hb dX7_watch_50 rfl ?_
        refine lv_istore_n (lv' := [(2, .int (((mNow μ) 660).toInt32)), (0, .ref (a b)), (1, .int s1)]) hx hb dX7_watch_51 rfl hl (by decide) rfl (fun ls hl => ?_)
        refine lv_aload_n hx hb dX7_watch_52 rfl (lv_at hl 1 rfl) ?_
        refine va_get (D := gD Γ) (cl := vwCl) (tys := gTy Γ) (ci := 7) (v := .ref (a (b + 1))) (C := RX7) (T := TX7) (N := 18) hx hb hts iX7_watch_7 hown hK hP 0 rfl rfl 0 (Nat.le_of_ble_eq_true rfl) (hts (.fieldLink RX7 7 "DeadTimeLoopModel" "now" "[J") (List.mem_of_getElem? (i := 2) rfl)) (fun _ h9 => h9) rfl dX7_watch_53 ?_
        refine lv_sipush (v := 660) hx hb dX7_watch_56 (by decide) ?_
        refine lv_dup2_11 hx hb dX7_watch_59 rfl rfl ?_
        refine ka_lald (D := gD Γ) (cl := vwCl) (tys := gTy Γ) hx hb hK hP 1 1 rfl rfl 660 (by decide) (by decide) (by decide) (v := ((mNow μ) 660)) rfl dX7_watch_60 ?_
        refine lv_lconst (v := 1) hx hb dX7_watch_61 (by decide) ?_
        refine lv_ladd hx hb dX7_watch_62 ?_
        refine ka_last (D := gD Γ) (cl := vwCl) (tys := gTy Γ) hx hb hK hP hD hS 1 1 rfl rfl 660 (by decide) (by decide) (by decide) (wf := modW Γ a b ((vp_updL (mNow μ) 660 (((mNow μ) 660) + 1)), (mAside μ), (mKept μ), (mKm μ), (mPar μ), (mParA μ), (mBef μ), (mUm μ), (mLow μ), (mHigh μ), (mNames μ), (mLen μ), (mText μ), (mPath μ), (mIdeal μ), (mSpot μ), (mWhich μ), (mNum μ))) rfl dX7_watch_63 (fun H locs hP hD hS => ?_)
        refine lv_aload_n hx hb dX7_watch_64 rfl (lv_at hl 1 rfl) ?_
        refine va_get (D := gD Γ) (cl := vwCl) (tys := gTy Γ) (ci := 7) (v := .ref (a (b + 1))) (C := RX7) (T := TX7) (N := 18) hx hb hts iX7_watch_7 hown hK hP 0 rfl rfl 0 (Nat.le_of_ble_eq_true rfl) (hts (.fieldLink RX7 7 "DeadTimeLoopModel" "now" "[J") (List.mem_of_getElem? (i := 2) rfl)) (fun _ h9 => h9) rfl dX7_watch_65 ?_
        refine lv_sipush (v := 661) hx hb dX7_watch_68 (by decide) ?_
        refine lv_iconst (v := 5) hx hb dX7_watch_71 (by decide) ?_
        refine lv_iload_n hx hb dX7_watch_72 rfl (lv_at hl 0 rfl) ?_
        refine lv_imul hx hb dX7_watch_73 ?_
        refine lv_iadd hx hb dX7_watch_74 ?_
        refine lv_iload_n hx hb dX7_watch_75 rfl (lv_at hl 2 rfl) ?_
        refine lv_i2l (v := s1.toInt64) hx hb dX7_watch_76 rfl ?_
        refine ka_last (D := gD Γ) (cl := vwCl) (tys := gTy Γ) hx hb hK hP hD hS 1 1 rfl rfl (661 + 5 * (((mNow μ) 660).toInt32).toNatClampNeg) (wpl_ix (wcnt_in hok c_32)) (by have := in_lt (wcnt_in hok c_32); omega) (by decide) (wf := modW Γ a b ((vp_updL (vp_updL (mNow μ) 660 (((mNow μ) 660) + 1)) (661 + 5 * (((mNow μ) 660).toInt32).toNatClampNeg) (s1.toInt64)), (mAside μ), (mKept μ), (mKm μ), (mPar μ), (mParA μ), (mBef μ), (mUm μ), (mLow μ), (mHigh μ), (mNames μ), (mLen μ), (mText μ), (mPath μ), (mIdeal μ), (mSpot μ), (mWhich μ), (mNum μ))) rfl dX7_watch_77 (fun H locs hP hD hS => ?_)
        refine lv_aload_n hx hb dX7_watch_78 rfl (lv_at hl 1 rfl) ?_
        refine va_get (D := gD Γ) (cl := vwCl) (tys := gTy Γ) (ci := 7) (v := .ref (a (b + 1))) (C := RX7) (T := TX7) (N := 18) hx hb hts iX7_watch_7 hown hK hP 0 rfl rfl 0 (Nat.le_of_ble_eq_true rfl) (hts (.fieldLink RX7 7 "DeadTimeLoopModel" "now" "[J") (List.mem_of_getElem? (i := 2) rfl)) (fun _ h9 => h9) rfl dX7_watch_79 ?_
        refine lv_sipush (v := 661) hx hb dX7_watch_82 (by decide) ?_
        refine lv_iconst (v := 5) hx hb dX7_watch_85 (by decide) ?_
        refine lv_iload_n hx hb dX7_watch_86 rfl (lv_at hl 0 rfl) ?_
        refine lv_imul hx hb dX7_watch_87 ?_
        refine lv_iadd hx hb dX7_watch_88 ?_
        refine lv_iconst (v := 1) hx hb dX7_watch_89 (by decide) ?_
        refine lv_iadd hx hb dX7_watch_90 ?_
        refine lv_lconst (v := 0) hx hb dX7_watch_91 (by decide) ?_
        refine ka_last (D := gD Γ) (cl := vwCl) (tys := gTy Γ) hx hb hK hP hD hS 1 1 rfl rfl (661 + 5 * (((mNow μ) 660).toInt32).toNatClampNeg + 1) (wpl_ix1 (wcnt_in hok c_32)) (by have := in_lt (wcnt_in hok c_32); omega) (by decide) (wf := modW Γ a b ((vp_updL (vp_updL (vp_updL (mNow μ) 660 (((mNow μ) 660) + 1)) (661 + 5 * (((mNow μ) 660).toInt32).toNatClampNeg) (s1.toInt64)) (661 + 5 * (((mNow μ) 660).toInt32).toNatClampNeg + 1) 0), (mAside μ), (mKept μ), (mKm μ), (mPar μ), (mParA μ), (mBef μ), (mUm μ), (mLow μ), (mHigh μ), (mNames μ), (mLen μ), (mText μ), (mPath μ), (mIdeal μ), (mSpot μ), (mWhich μ), (mNum μ))) rfl dX7_watch_92 (fun H locs hP hD hS => ?_)
        refine lv_aload_n hx hb dX7_watch_93 rfl (lv_at hl 1 rfl) ?_
        refine va_get (D := gD Γ) (cl := vwCl) (tys := gTy Γ) (ci := 7) (v := .ref (a (b + 1))) (C := RX7) (T := TX7) (N := 18) hx hb hts iX7_watch_7 hown hK hP 0 rfl rfl 0 (Nat.le_of_ble_eq_true rfl) (hts (.fieldLink RX7 7 "DeadTimeLoopModel" "now" "[J") (List.mem_of_getElem? (i := 2) rfl)) (fun _ h9 => h9) rfl dX7_watch_94 ?_
        refine lv_sipush (v := 660) hx hb dX7_watch_97 (by decide) ?_
        refine ka_lald (D := gD Γ) (cl := vwCl) (tys := gTy Γ) hx hb hK hP 1 1 rfl rfl 660 (by decide) (by decide) (by decide) (v := ((vp_updL (vp_updL (vp_updL (mNow μ) 660 (((mNow μ) 660) + 1)) (661 + 5 * (((mNow μ) 660).toInt32).toNatClampNeg) (s1.toInt64)) (661 + 5 * (((mNow μ) 660).toInt32).toNatClampNeg + 1) 0) 660)) rfl dX7_watch_100 ?_
        refine lv_l2i (v := ((vp_updL (vp_updL (vp_updL (mNow μ) 660 (((mNow μ) 660) + 1)) (661 + 5 * (((mNow μ) 660).toInt32).toNatClampNeg) (s1.toInt64)) (661 + 5 * (((mNow μ) 660).toInt32).toNatClampNeg + 1) 0) 660).toInt32) hx hb dX7_watch_101 rfl ?_
        exact re_i hQ ha hx hb hr hlk hAe hP hS dX7_watch_102 (by simp only [jWatch, jWatch1, mWatchAt, c_4, c_17, c_32, if_true, if_false]) (by simp only [hWatch, mWatchRow, mWatchAt, mPut_now, c_4, c_17, c_32, if_true, if_false])
      · -- no
        have c_32 := (lg_cmp_eq _ _).mp c_32
        refine lv_ldc hx hb hown (hts (.constant RX7 97 (-2000000003)) (List.mem_of_getElem? (i := 4) rfl)) dX7_watch_35 ?_
        exact re_i hQ ha hx hb hr hlk hAe hP hS dX7_watch_37 (by simp only [jWatch, jWatch1, mWatchAt, c_4, c_17, c_32, if_true, if_false]) (by simp only [hWatch, mWatchRow, mWatchAt, mPut_now, c_4, c_17, c_32, if_true, if_false])
  · -- no
    refine lv_ldc hx hb hown (hts (.constant RX7 74 (-2000000001)) (List.mem_of_getElem? (i := 1) rfl)) dX7_watch_7 ?_
    exact re_i hQ ha hx hb hr hlk hAe hP hS dX7_watch_9 (by simp only [jWatch, jWatch1, mWatchAt, c_4, if_true, if_false]) (by simp only [hWatch, mWatchRow, mWatchAt, mPut_now, c_4, if_true, if_false])
def rm_X7_unwatch : Room := { frames := 2, cells := 0, slots := 0, locals := 45 }
theorem iX7_unwatch_7 : ∀ w ∈ u_ws RX7 TX7 18, w ∈ wsX7_unwatch := fun w h => (List.mem_cons_of_mem _ (List.mem_append_right _ h))
set_option maxHeartbeats 1000000 in
set_option maxRecDepth 100000 in
theorem c_X7_unwatch (Γ : gT) (l : Launch) (a : Nat → Nat) (b : Nat) (μ : Mst) (s1 : Int32) (hok : mOk (mNow μ)) : Ci Γ l yX7_unwatch wsX7_unwatch rm_X7_unwatch [.ref (a b), .int s1] (modW Γ a b μ) (jUnwatch μ s1) (modW Γ a b (hUnwatch μ s1)) := by
  refine Ci.of (cc := cX7_unwatch) (own := RX7) (nL := 4) (ret := (some .int)) (by decide +kernel) rfl rfl (Nat.le_of_ble_eq_true rfl) ?_
  intro p e s m args below meth c A Q H locs ls ha hAe hQ hx hb hml hr hts hown hlk hP hK hD hS hA hG hl
  have hh : Hd Γ p s m args c cX7_unwatch RX7 4 wsX7_unwatch A := ⟨⟨hx, hb, hml, hown, hts⟩, hK, hA, hG⟩
  have hl : lv_has ls 4 [(0, .ref (a b)), (1, .int s1)] := hl
  refine lv_iload_n hx hb dX7_unwatch_0 rfl (lv_at hl 1 rfl) ?_
  refine ca_Si hh hl.1 (c_X7_isSignal Γ l s1) (va_cwS 1 hts gX7_unwatch_X7_isSignal rfl rfl rfl (by decide +kernel) ⟨(Nat.le_of_ble_eq_true rfl), (Nat.le_of_ble_eq_true rfl)⟩) (As := [.int s1]) (rest := []) rfl dX7_unwatch_1 rfl (Nat.le_of_ble_eq_true rfl) hP hD hS ⟨Nat.zero_le _, Nat.zero_le _⟩ (fun H locs hP hS => ?_)
  refine lv_if_ne (tgt := 10) hx hb dX7_unwatch_4 (by decide) (fun c_4 => ?_) (fun c_4 => ?_)
  · -- yes
    refine lv_aload_n hx hb dX7_unwatch_10 rfl (lv_at hl 0 rfl) ?_
    refine lv_iload_n hx hb dX7_unwatch_11 rfl (lv_at hl 1 rfl) ?_
    refine ca_Via hh hl.1 (c_X7_placeOf Γ l a b μ s1 hok) (cwV 1 hts gX7_unwatch_X7_placeOf rfl rfl rfl (by decide +kernel) ⟨(Nat.le_of_ble_eq_true rfl), (Nat.le_of_ble_eq_true rfl)⟩) (As := [.int s1]) (rest := []) rfl dX7_unwatch_12 rfl (Nat.le_of_ble_eq_true rfl) hP hD hS (q0 := 0) (ci := 7) rfl rfl rfl (wf := modW Γ a b μ) rfl ⟨Nat.zero_le _, Nat.zero_le _⟩ (fun H locs hP hD hS => ?_)
    refine lv_istore_n (lv' := [(2, .int (mPlace (mNow μ) s1)), (0, .ref (a b)), (1, .int s1)]) hx hb dX7_unwatch_15 rfl hl (by decide) rfl (fun ls hl => ?_)
    refine lv_iload_n hx hb dX7_unwatch_16 rfl (lv_at hl 0 rfl) ?_
    refine lv_if_ge (tgt := 23) hx hb dX7_unwatch_17 (by decide) (fun c_17 => ?_) (fun c_17 => ?_)
    · -- yes
      obtain ⟨hT, wn, hW4, hW, hs⟩ := hok
      obtain ⟨pl, hpl, epl⟩ := mPlace_lt hW4 hW c_17
      have hV : mNow μ 660 - 1 = lN (wn - 1) := by rw [hW]; exact lN_sub (b := 1) (by omega)
      have ecl : (mPlace (mNow μ) s1).toNatClampNeg = pl := by rw [epl]; exact nI_clamp (by omega)
      refine lv_aload_n hx hb dX7_unwatch_23 rfl (lv_at hl 1 rfl) ?_
      refine va_get (D := gD Γ) (cl := vwCl) (tys := gTy Γ) (ci := 7) (v := .ref (a (b + 1))) (C := RX7) (T := TX7) (N := 18) hx hb hts iX7_unwatch_7 hown hK hP 0 rfl rfl 0 (Nat.le_of_ble_eq_true rfl) (hts (.fieldLink RX7 7 "DeadTimeLoopModel" "now" "[J") (List.mem_of_getElem? (i := 3) rfl)) (fun _ h9 => h9) rfl dX7_unwatch_24 ?_
      refine lv_sipush (v := 660) hx hb dX7_unwatch_27 (by decide) ?_
      refine lv_dup2_11 hx hb dX7_unwatch_30 rfl rfl ?_
      refine ka_lald (D := gD Γ) (cl := vwCl) (tys := gTy Γ) hx hb hK hP 1 1 rfl rfl 660 (by decide) (by decide) (by decide) (v := ((mNow μ) 660)) rfl dX7_unwatch_31 ?_
      refine lv_lconst (v := 1) hx hb dX7_unwatch_32 (by decide) ?_
      refine lv_lsub hx hb dX7_unwatch_33 ?_
      refine ka_last (D := gD Γ) (cl := vwCl) (tys := gTy Γ) hx hb hK hP hD hS 1 1 rfl rfl 660 (by decide) (by decide) (by decide) (wf := modW Γ a b ((vp_updL (mNow μ) 660 (((mNow μ) 660) - 1)), (mAside μ), (mKept μ), (mKm μ), (mPar μ), (mParA μ), (mBef μ), (mUm μ), (mLow μ), (mHigh μ), (mNames μ), (mLen μ), (mText μ), (mPath μ), (mIdeal μ), (mSpot μ), (mWhich μ), (mNum μ))) rfl dX7_unwatch_34 (fun H locs hP hD hS => ?_)
      refine lv_sipush (v := 661) hx hb dX7_unwatch_35 (by decide) ?_
      refine lv_iconst (v := 5) hx hb dX7_unwatch_38 (by decide) ?_
      refine lv_iload_n hx hb dX7_unwatch_39 rfl (lv_at hl 0 rfl) ?_
      refine lv_imul hx hb dX7_unwatch_40 ?_
      refine lv_iadd hx hb dX7_unwatch_41 ?_
      refine lv_istore_n (lv' := [(3, .int (661 + (5 * (mPlace (mNow μ) s1)))), (2, .int (mPlace (mNow μ) s1)), (0, .ref (a b)), (1, .int s1)]) hx hb dX7_unwatch_42 rfl hl (by decide) rfl (fun ls hl => ?_)
      have hJ_43 : ∀ n : Nat, ∀ (i : Nat) (y : Int32) (n1 : Nat → Int64), (y = nI i) → (661 ≤ i ∧ i ≤ 676) → (682 + 5 * pl ≤ i + n) → (n1 660 = lN (wn - 1)) → (mUnwN n i n1 = mUnwRow (mNow μ) (mPlace (mNow μ) s1)) → ∀ (H : Heap) (locs : List Loc) (ls : Array Slot), va_P (gD Γ) vwCl (modW Γ a b (n1, (mAside μ), (mKept μ), (mKm μ), (mPar μ), (mParA μ), (mBef μ), (mUm μ), (mLow μ), (mHigh μ), (mNames μ), (mLen μ), (mText μ), (mPath μ), (mIdeal μ), (mSpot μ), (mWhich μ), (mNum μ))) H → va_D A (modW Γ a b (n1, (mAside μ), (mKept μ), (mKm μ), (mPar μ), (mParA μ), (mBef μ), (mUm μ), (mLow μ), (mHigh μ), (mNames μ), (mLen μ), (mText μ), (mPath μ), (mIdeal μ), (mSpot μ), (mWhich μ), (mNum μ))) → va_S A s.heap H locs → lv_has ls 4 [(0, .ref (a b)), (3, .int y)] → W p l e rm_X7_unwatch s m args below meth c H locs 0 0 Q (F0 m 43 ls []) := by
        intro n
        induction n with
        | zero =>
          intro i y n1 ey hi hn hw hg
          omega
        | succ n ih =>
          intro i y n1 ey hi hn hw hg H locs ls hP hD hS hl
          refine lv_iload_n hx hb dX7_unwatch_43 rfl (lv_at hl 1 rfl) ?_
          refine lv_i2l (v := y.toInt64) hx hb dX7_unwatch_44 rfl ?_
          refine lv_ldc2 hx hb hown (hts (.constantLong RX7 215 (661)) (List.mem_of_getElem? (i := 4) rfl)) dX7_unwatch_45 ?_
          refine lv_ldc2 hx hb hown (hts (.constantLong RX7 217 (5)) (List.mem_of_getElem? (i := 5) rfl)) dX7_unwatch_48 ?_
          refine lv_aload_n hx hb dX7_unwatch_51 rfl (lv_at hl 0 rfl) ?_
          refine va_get (D := gD Γ) (cl := vwCl) (tys := gTy Γ) (ci := 7) (v := .ref (a (b + 1))) (C := RX7) (T := TX7) (N := 18) hx hb hts iX7_unwatch_7 hown hK hP 0 rfl rfl 0 (Nat.le_of_ble_eq_true rfl) (hts (.fieldLink RX7 7 "DeadTimeLoopModel" "now" "[J") (List.mem_of_getElem? (i := 3) rfl)) (fun _ h9 => h9) rfl dX7_unwatch_52 ?_
          refine lv_sipush (v := 660) hx hb dX7_unwatch_55 (by decide) ?_
          refine ka_lald (D := gD Γ) (cl := vwCl) (tys := gTy Γ) hx hb hK hP 1 1 rfl rfl 660 (by decide) (by decide) (by decide) (v := (n1 660)) rfl dX7_unwatch_58 ?_
          refine lv_lmul hx hb dX7_unwatch_59 ?_
          refine lv_ladd hx hb dX7_unwatch_60 ?_
          refine W.lcmp hx hb dX7_unwatch_61 ?_
          refine lv_if_ge (tgt := 85) hx hb dX7_unwatch_62 (by decide) (fun c_62 => ?_) (fun c_62 => ?_)
          · -- yes
            have c_62 := (lg_cmp_ge _ _).mp c_62
            refine lv_aload_n hx hb dX7_unwatch_85 rfl (lv_at hl 0 rfl) ?_
            refine va_get (D := gD Γ) (cl := vwCl) (tys := gTy Γ) (ci := 7) (v := .ref (a (b + 1))) (C := RX7) (T := TX7) (N := 18) hx hb hts iX7_unwatch_7 hown hK hP 0 rfl rfl 0 (Nat.le_of_ble_eq_true rfl) (hts (.fieldLink RX7 7 "DeadTimeLoopModel" "now" "[J") (List.mem_of_getElem? (i := 3) rfl)) (fun _ h9 => h9) rfl dX7_unwatch_86 ?_
            refine lv_sipush (v := 660) hx hb dX7_unwatch_89 (by decide) ?_
            refine ka_lald (D := gD Γ) (cl := vwCl) (tys := gTy Γ) hx hb hK hP 1 1 rfl rfl 660 (by decide) (by decide) (by decide) (v := (n1 660)) rfl dX7_unwatch_92 ?_
            refine lv_l2i (v := (n1 660).toInt32) hx hb dX7_unwatch_93 rfl ?_
            exact re_i hQ ha hx hb hr hlk hAe hP hS dX7_unwatch_94 (by rw [jUnwatch, if_neg c_4, if_pos c_17, ← hg, mUnwN_s, if_pos (by rw [← ey]; exact c_62)]) (by rw [hUnwatch, if_neg c_4, if_pos c_17, ← hg, mUnwN_s, if_pos (by rw [← ey]; exact c_62)]; rfl)
          · -- no
            have c_62 := mt (lg_cmp_ge _ _).mpr c_62
            have hi5 : i < 661 + 5 * (wn - 1) := unw_lt (by rw [← hw, ← ey]; exact c_62) (by omega) (by omega)
            refine lv_aload_n hx hb dX7_unwatch_65 rfl (lv_at hl 0 rfl) ?_
            refine va_get (D := gD Γ) (cl := vwCl) (tys := gTy Γ) (ci := 7) (v := .ref (a (b + 1))) (C := RX7) (T := TX7) (N := 18) hx hb hts iX7_unwatch_7 hown hK hP 0 rfl rfl 0 (Nat.le_of_ble_eq_true rfl) (hts (.fieldLink RX7 7 "DeadTimeLoopModel" "now" "[J") (List.mem_of_getElem? (i := 3) rfl)) (fun _ h9 => h9) rfl dX7_unwatch_66 ?_
            refine lv_iload_n hx hb dX7_unwatch_69 rfl (lv_at hl 1 rfl) ?_
            refine lv_aload_n hx hb dX7_unwatch_70 rfl (lv_at hl 0 rfl) ?_
            refine va_get (D := gD Γ) (cl := vwCl) (tys := gTy Γ) (ci := 7) (v := .ref (a (b + 1))) (C := RX7) (T := TX7) (N := 18) hx hb hts iX7_unwatch_7 hown hK hP 0 rfl rfl 0 (Nat.le_of_ble_eq_true rfl) (hts (.fieldLink RX7 7 "DeadTimeLoopModel" "now" "[J") (List.mem_of_getElem? (i := 3) rfl)) (fun _ h9 => h9) rfl dX7_unwatch_71 ?_
            refine lv_iload_n hx hb dX7_unwatch_74 rfl (lv_at hl 1 rfl) ?_
            refine lv_iconst (v := 5) hx hb dX7_unwatch_75 (by decide) ?_
            refine lv_iadd hx hb dX7_unwatch_76 ?_
            refine ka_lald (D := gD Γ) (cl := vwCl) (tys := gTy Γ) hx hb hK hP 1 1 rfl rfl (i + 5) (by rw [ey]; exact nI_add i 5) (by omega) (by decide) (v := (n1 (i + 5))) rfl dX7_unwatch_77 ?_
            refine ka_last (D := gD Γ) (cl := vwCl) (tys := gTy Γ) hx hb hK hP hD hS 1 1 rfl rfl i ey (by omega) (by decide) (wf := modW Γ a b ((vp_updL n1 i (n1 (i + 5))), (mAside μ), (mKept μ), (mKm μ), (mPar μ), (mParA μ), (mBef μ), (mUm μ), (mLow μ), (mHigh μ), (mNames μ), (mLen μ), (mText μ), (mPath μ), (mIdeal μ), (mSpot μ), (mWhich μ), (mNum μ))) rfl dX7_unwatch_78 (fun H locs hP hD hS => ?_)
            refine lv_iinc (v := (y + 1)) (lv' := [(3, .int (y + 1)), (0, .ref (a b))]) hx hb dX7_unwatch_79 hl (k := 1) rfl rfl (by decide) rfl (fun ls hl => ?_)
            refine lv_goto (tgt := 43) hx hb dX7_unwatch_82 (by decide) ?_
            exact ih (i + 1) _ _ (by rw [ey]; exact nI_1 i) (by omega) (by omega) (by rw [pk_uLn (by omega)]; exact hw) (by rw [← hg, mUnwN_s, if_neg (by rw [← ey]; exact c_62)]) _ _ _ hP hD hS (lv_sub hl [1, 0] rfl)
      exact hJ_43 21 (661 + 5 * pl) _ _ (by rw [epl]; exact wat_ix pl) (by omega) (by omega) (by rw [pk_uLs]; exact hV) (by rw [← ecl]; rfl) _ _ _ hP hD hS (lv_sub hl [2, 0] rfl)
    · -- no
      refine lv_ldc hx hb hown (hts (.constant RX7 82 (-2000000004)) (List.mem_of_getElem? (i := 2) rfl)) dX7_unwatch_20 ?_
      exact re_i hQ ha hx hb hr hlk hAe hP hS dX7_unwatch_22 (by simp only [jUnwatch, c_4, c_17, if_true, if_false]) (by simp only [hUnwatch, mPut_now, c_4, c_17, if_true, if_false])
  · -- no
    refine lv_ldc hx hb hown (hts (.constant RX7 74 (-2000000001)) (List.mem_of_getElem? (i := 1) rfl)) dX7_unwatch_7 ?_
    exact re_i hQ ha hx hb hr hlk hAe hP hS dX7_unwatch_9 (by simp only [jUnwatch, c_4, if_true, if_false]) (by simp only [hUnwatch, mPut_now, c_4, if_true, if_false])
def rm_X7_watchedAt : Room := { frames := 0, cells := 0, slots := 0, locals := 0 }
theorem iX7_watchedAt_7 : ∀ w ∈ u_ws RX7 TX7 18, w ∈ wsX7_watchedAt := fun w h => (List.mem_cons_of_mem _ (List.mem_append_right _ h))
set_option maxHeartbeats 1000000 in
set_option maxRecDepth 100000 in
theorem c_X7_watchedAt (Γ : gT) (l : Launch) (a : Nat → Nat) (b : Nat) (μ : Mst) (i1 : Int32) (hok : mOk (mNow μ)) : Ci Γ l yX7_watchedAt wsX7_watchedAt rm_X7_watchedAt [.ref (a b), .int i1] (modW Γ a b μ) (jWatchedAt μ i1) (modW Γ a b μ) := by
  refine Ci.of (cc := cX7_watchedAt) (own := RX7) (nL := 2) (ret := (some .int)) (by decide +kernel) rfl rfl (Nat.le_of_ble_eq_true rfl) ?_
  intro p e s m args below meth c A Q H locs ls ha hAe hQ hx hb hml hr hts hown hlk hP hK hD hS hA hG hl
  have hh : Hd Γ p s m args c cX7_watchedAt RX7 2 wsX7_watchedAt A := ⟨⟨hx, hb, hml, hown, hts⟩, hK, hA, hG⟩
  have hl : lv_has ls 2 [(0, .ref (a b)), (1, .int i1)] := hl
  refine lv_iload_n hx hb dX7_watchedAt_0 rfl (lv_at hl 1 rfl) ?_
  refine lv_if_ge (tgt := 7) hx hb dX7_watchedAt_1 (by decide) (fun c_1 => ?_) (fun c_1 => ?_)
  · -- yes
    refine lv_iload_n hx hb dX7_watchedAt_7 rfl (lv_at hl 1 rfl) ?_
    refine lv_i2l (v := i1.toInt64) hx hb dX7_watchedAt_8 rfl ?_
    refine lv_aload_n hx hb dX7_watchedAt_9 rfl (lv_at hl 0 rfl) ?_
    refine va_get (D := gD Γ) (cl := vwCl) (tys := gTy Γ) (ci := 7) (v := .ref (a (b + 1))) (C := RX7) (T := TX7) (N := 18) hx hb hts iX7_watchedAt_7 hown hK hP 0 rfl rfl 0 (Nat.le_of_ble_eq_true rfl) (hts (.fieldLink RX7 7 "DeadTimeLoopModel" "now" "[J") (List.mem_of_getElem? (i := 2) rfl)) (fun _ h9 => h9) rfl dX7_watchedAt_10 ?_
    refine lv_sipush (v := 660) hx hb dX7_watchedAt_13 (by decide) ?_
    refine ka_lald (D := gD Γ) (cl := vwCl) (tys := gTy Γ) hx hb hK hP 1 1 rfl rfl 660 (by decide) (by decide) (by decide) (v := ((mNow μ) 660)) rfl dX7_watchedAt_16 ?_
    refine W.lcmp hx hb dX7_watchedAt_17 ?_
    refine lv_if_ge (tgt := 37) hx hb dX7_watchedAt_18 (by decide) (fun c_18 => ?_) (fun c_18 => ?_)
    · -- yes
      have c_18 := (lg_cmp_ge _ _).mp c_18
      refine lv_ldc hx hb hown (hts (.constant RX7 82 (-2000000004)) (List.mem_of_getElem? (i := 3) rfl)) dX7_watchedAt_37 ?_
      exact re_i hQ ha hx hb hr hlk hAe hP hS dX7_watchedAt_39 (by simp only [jWatchedAt, c_1, c_18, if_true, if_false]) rfl
    · -- no
      have c_18 := mt (lg_cmp_ge _ _).mpr c_18
      refine lv_aload_n hx hb dX7_watchedAt_21 rfl (lv_at hl 0 rfl) ?_
      refine va_get (D := gD Γ) (cl := vwCl) (tys := gTy Γ) (ci := 7) (v := .ref (a (b + 1))) (C := RX7) (T := TX7) (N := 18) hx hb hts iX7_watchedAt_7 hown hK hP 0 rfl rfl 0 (Nat.le_of_ble_eq_true rfl) (hts (.fieldLink RX7 7 "DeadTimeLoopModel" "now" "[J") (List.mem_of_getElem? (i := 2) rfl)) (fun _ h9 => h9) rfl dX7_watchedAt_22 ?_
      refine lv_sipush (v := 661) hx hb dX7_watchedAt_25 (by decide) ?_
      refine lv_iconst (v := 5) hx hb dX7_watchedAt_28 (by decide) ?_
      refine lv_iload_n hx hb dX7_watchedAt_29 rfl (lv_at hl 1 rfl) ?_
      refine lv_imul hx hb dX7_watchedAt_30 ?_
      refine lv_iadd hx hb dX7_watchedAt_31 ?_
      refine ka_lald (D := gD Γ) (cl := vwCl) (tys := gTy Γ) hx hb hK hP 1 1 rfl rfl (661 + 5 * i1.toNatClampNeg) (wpl_ix (wat_in hok c_1 c_18)) (by have := in_lt (wat_in hok c_1 c_18); omega) (by decide) (v := ((mNow μ) (661 + 5 * i1.toNatClampNeg))) rfl dX7_watchedAt_32 ?_
      refine lv_l2i (v := ((mNow μ) (661 + 5 * i1.toNatClampNeg)).toInt32) hx hb dX7_watchedAt_33 rfl ?_
      refine lv_goto (tgt := 39) hx hb dX7_watchedAt_34 (by decide) ?_
      exact re_i hQ ha hx hb hr hlk hAe hP hS dX7_watchedAt_39 (by simp only [jWatchedAt, c_1, c_18, if_true, if_false]) rfl
  · -- no
    refine lv_ldc hx hb hown (hts (.constant RX7 74 (-2000000001)) (List.mem_of_getElem? (i := 1) rfl)) dX7_watchedAt_4 ?_
    exact re_i hQ ha hx hb hr hlk hAe hP hS dX7_watchedAt_6 (by simp only [jWatchedAt, c_1, if_true, if_false]) rfl
def rm_X7_extreme : Room := { frames := 2, cells := 0, slots := 0, locals := 45 }
theorem iX7_extreme_7 : ∀ w ∈ u_ws RX7 TX7 18, w ∈ wsX7_extreme := fun w h => (List.mem_cons_of_mem _ (List.mem_append_right _ h))
set_option maxHeartbeats 1000000 in
set_option maxRecDepth 100000 in
theorem c_X7_extreme (Γ : gT) (l : Launch) (a : Nat → Nat) (b : Nat) (μ : Mst) (s1 : Int32) (what : Int32) (hok : mOk (mNow μ)) : Ci Γ l yX7_extreme wsX7_extreme rm_X7_extreme [.ref (a b), .int s1, .int what] (modW Γ a b μ) (jExtreme μ s1 what) (modW Γ a b μ) := by
  refine Ci.of (cc := cX7_extreme) (own := RX7) (nL := 4) (ret := (some .int)) (by decide +kernel) rfl rfl (Nat.le_of_ble_eq_true rfl) ?_
  intro p e s m args below meth c A Q H locs ls ha hAe hQ hx hb hml hr hts hown hlk hP hK hD hS hA hG hl
  have hh : Hd Γ p s m args c cX7_extreme RX7 4 wsX7_extreme A := ⟨⟨hx, hb, hml, hown, hts⟩, hK, hA, hG⟩
  have hl : lv_has ls 4 [(0, .ref (a b)), (1, .int s1), (2, .int what)] := hl
  refine lv_iload_n hx hb dX7_extreme_0 rfl (lv_at hl 1 rfl) ?_
  refine ca_Si hh hl.1 (c_X7_isSignal Γ l s1) (va_cwS 1 hts gX7_extreme_X7_isSignal rfl rfl rfl (by decide +kernel) ⟨(Nat.le_of_ble_eq_true rfl), (Nat.le_of_ble_eq_true rfl)⟩) (As := [.int s1]) (rest := []) rfl dX7_extreme_1 rfl (Nat.le_of_ble_eq_true rfl) hP hD hS ⟨Nat.zero_le _, Nat.zero_le _⟩ (fun H locs hP hS => ?_)
  refine lv_if_eq (tgt := 19) hx hb dX7_extreme_4 (by decide) (fun c_4 => ?_) (fun c_4 => ?_)
  · -- yes
    refine lv_ldc hx hb hown (hts (.constant RX7 74 (-2000000001)) (List.mem_of_getElem? (i := 2) rfl)) dX7_extreme_19 ?_
    exact re_i hQ ha hx hb hr hlk hAe hP hS dX7_extreme_21 (by simp only [jExtreme, jExtreme1, c_4, if_true, if_false]) rfl
  · -- no
    refine lv_iload_n hx hb dX7_extreme_7 rfl (lv_at hl 2 rfl) ?_
    refine lv_i2l (v := what.toInt64) hx hb dX7_extreme_8 rfl ?_
    refine lv_lconst (v := 0) hx hb dX7_extreme_9 (by decide) ?_
    refine lv_ldc2 hx hb hown (hts (.constantLong RX7 150 (2)) (List.mem_of_getElem? (i := 1) rfl)) dX7_extreme_10 ?_
    refine ca_Si hh hl.1 (c_X7_in Γ l (what.toInt64) 0 2) (va_cwS 3 hts gX7_extreme_X7_in rfl rfl rfl (by decide +kernel) ⟨(Nat.le_of_ble_eq_true rfl), (Nat.le_of_ble_eq_true rfl)⟩) (As := [.long (what.toInt64), .long 0, .long 2]) (rest := []) rfl dX7_extreme_13 rfl (Nat.le_of_ble_eq_true rfl) hP hD hS ⟨Nat.zero_le _, Nat.zero_le _⟩ (fun H locs hP hS => ?_)
    refine lv_if_ne (tgt := 22) hx hb dX7_extreme_16 (by decide) (fun c_16 => ?_) (fun c_16 => ?_)
    · -- yes
      refine lv_aload_n hx hb dX7_extreme_22 rfl (lv_at hl 0 rfl) ?_
      refine lv_iload_n hx hb dX7_extreme_23 rfl (lv_at hl 1 rfl) ?_
      refine ca_Via hh hl.1 (c_X7_placeOf Γ l a b μ s1 hok) (cwV 1 hts gX7_extreme_X7_placeOf rfl rfl rfl (by decide +kernel) ⟨(Nat.le_of_ble_eq_true rfl), (Nat.le_of_ble_eq_true rfl)⟩) (As := [.int s1]) (rest := []) rfl dX7_extreme_24 rfl (Nat.le_of_ble_eq_true rfl) hP hD hS (q0 := 0) (ci := 7) rfl rfl rfl (wf := modW Γ a b μ) rfl ⟨Nat.zero_le _, Nat.zero_le _⟩ (fun H locs hP hD hS => ?_)
      refine lv_istore_n (lv' := [(3, .int (mPlace (mNow μ) s1)), (0, .ref (a b)), (1, .int s1), (2, .int what)]) hx hb dX7_extreme_27 rfl hl (by decide) rfl (fun ls hl => ?_)
      refine lv_iload_n hx hb dX7_extreme_28 rfl (lv_at hl 0 rfl) ?_
      refine lv_if_ge (tgt := 35) hx hb dX7_extreme_29 (by decide) (fun c_29 => ?_) (fun c_29 => ?_)
      · -- yes
        refine lv_aload_n hx hb dX7_extreme_35 rfl (lv_at hl 1 rfl) ?_
        refine va_get (D := gD Γ) (cl := vwCl) (tys := gTy Γ) (ci := 7) (v := .ref (a (b + 1))) (C := RX7) (T := TX7) (N := 18) hx hb hts iX7_extreme_7 hown hK hP 0 rfl rfl 0 (Nat.le_of_ble_eq_true rfl) (hts (.fieldLink RX7 7 "DeadTimeLoopModel" "now" "[J") (List.mem_of_getElem? (i := 4) rfl)) (fun _ h9 => h9) rfl dX7_extreme_36 ?_
        refine lv_sipush (v := 661) hx hb dX7_extreme_39 (by decide) ?_
        refine lv_iconst (v := 5) hx hb dX7_extreme_42 (by decide) ?_
        refine lv_iload_n hx hb dX7_extreme_43 rfl (lv_at hl 0 rfl) ?_
        refine lv_imul hx hb dX7_extreme_44 ?_
        refine lv_iadd hx hb dX7_extreme_45 ?_
        refine lv_iconst (v := 1) hx hb dX7_extreme_46 (by decide) ?_
        refine lv_iadd hx hb dX7_extreme_47 ?_
        refine ka_lald (D := gD Γ) (cl := vwCl) (tys := gTy Γ) hx hb hK hP 1 1 rfl rfl (661 + 5 * (mPlace (mNow μ) s1).toNatClampNeg + 1) (wpl_ix1 (mPlace_in hok c_29)) (by have := in_lt (mPlace_in hok c_29); omega) (by decide) (v := ((mNow μ) (661 + 5 * (mPlace (mNow μ) s1).toNatClampNeg + 1))) rfl dX7_extreme_48 ?_
        refine lv_lconst (v := 0) hx hb dX7_extreme_49 (by decide) ?_
        refine W.lcmp hx hb dX7_extreme_50 ?_
        refine lv_if_ne (tgt := 59) hx hb dX7_extreme_51 (by decide) (fun c_51 => ?_) (fun c_51 => ?_)
        · -- yes
          have c_51 := mt (lg_cmp_eq _ _).mpr c_51
          refine lv_aload_n hx hb dX7_extreme_59 rfl (lv_at hl 1 rfl) ?_
          refine va_get (D := gD Γ) (cl := vwCl) (tys := gTy Γ) (ci := 7) (v := .ref (a (b + 1))) (C := RX7) (T := TX7) (N := 18) hx hb hts iX7_extreme_7 hown hK hP 0 rfl rfl 0 (Nat.le_of_ble_eq_true rfl) (hts (.fieldLink RX7 7 "DeadTimeLoopModel" "now" "[J") (List.mem_of_getElem? (i := 4) rfl)) (fun _ h9 => h9) rfl dX7_extreme_60 ?_
          refine lv_sipush (v := 661) hx hb dX7_extreme_63 (by decide) ?_
          refine lv_iconst (v := 5) hx hb dX7_extreme_66 (by decide) ?_
          refine lv_iload_n hx hb dX7_extreme_67 rfl (lv_at hl 0 rfl) ?_
          refine lv_imul hx hb dX7_extreme_68 ?_
          refine lv_iadd hx hb dX7_extreme_69 ?_
          refine lv_iconst (v := 2) hx hb dX7_extreme_70 (by decide) ?_
          refine lv_iadd hx hb dX7_extreme_71 ?_
          refine lv_iload_n hx hb dX7_extreme_72 rfl (lv_at hl 3 rfl) ?_
          refine lv_iadd hx hb dX7_extreme_73 ?_
          refine ka_lald (D := gD Γ) (cl := vwCl) (tys := gTy Γ) hx hb hK hP 1 1 rfl rfl (661 + 5 * (mPlace (mNow μ) s1).toNatClampNeg + 2 + what.toNatClampNeg) (wpl_ix2 (mPlace_in hok c_29) (in_of 2 (by decide) c_16)) (by have := in_lt (mPlace_in hok c_29); have := in_lt (in_of 2 (by decide) c_16); omega) (by decide) (v := ((mNow μ) (661 + 5 * (mPlace (mNow μ) s1).toNatClampNeg + 2 + what.toNatClampNeg))) rfl dX7_extreme_74 ?_
          refine lv_l2i (v := ((mNow μ) (661 + 5 * (mPlace (mNow μ) s1).toNatClampNeg + 2 + what.toNatClampNeg)).toInt32) hx hb dX7_extreme_75 rfl ?_
          exact re_i hQ ha hx hb hr hlk hAe hP hS dX7_extreme_76 (by simp only [jExtreme, jExtreme1, c_4, c_16, c_29, c_51, if_true, if_false]) rfl
        · -- no
          have c_51 := (lg_cmp_eq _ _).mp c_51
          refine lv_ldc hx hb hown (hts (.constant RX7 82 (-2000000004)) (List.mem_of_getElem? (i := 5) rfl)) dX7_extreme_54 ?_
          refine lv_goto (tgt := 76) hx hb dX7_extreme_56 (by decide) ?_
          exact re_i hQ ha hx hb hr hlk hAe hP hS dX7_extreme_76 (by simp only [jExtreme, jExtreme1, c_4, c_16, c_29, c_51, if_true, if_false]) rfl
      · -- no
        refine lv_ldc hx hb hown (hts (.constant RX7 83 (-2000000002)) (List.mem_of_getElem? (i := 3) rfl)) dX7_extreme_32 ?_
        exact re_i hQ ha hx hb hr hlk hAe hP hS dX7_extreme_34 (by simp only [jExtreme, jExtreme1, c_4, c_16, c_29, if_true, if_false]) rfl
    · -- no
      refine lv_ldc hx hb hown (hts (.constant RX7 74 (-2000000001)) (List.mem_of_getElem? (i := 2) rfl)) dX7_extreme_19 ?_
      exact re_i hQ ha hx hb hr hlk hAe hP hS dX7_extreme_21 (by simp only [jExtreme, jExtreme1, c_4, c_16, if_true, if_false]) rfl
def rm_X7_measure : Room := { frames := 1, cells := 0, slots := 0, locals := 25 }
theorem iX7_measure_7 : ∀ w ∈ u_ws RX7 TX7 18, w ∈ wsX7_measure := fun w h => (List.mem_cons_of_mem _ (List.mem_append_right _ h))
set_option maxHeartbeats 1000000 in
set_option maxRecDepth 100000 in
theorem c_X7_measure (Γ : gT) (l : Launch) (a : Nat → Nat) (b : Nat) (μ : Mst) (k : Int32)  : Cl Γ l yX7_measure wsX7_measure rm_X7_measure [.ref (a b), .int k] (modW Γ a b μ) (jMeasure μ k) (modW Γ a b μ) := by
  refine Cl.of (cc := cX7_measure) (own := RX7) (nL := 2) (ret := (some .long)) (by decide +kernel) rfl rfl (Nat.le_of_ble_eq_true rfl) ?_
  intro p e s m args below meth c A Q H locs ls ha hAe hQ hx hb hml hr hts hown hlk hP hK hD hS hA hG hl
  have hh : Hd Γ p s m args c cX7_measure RX7 2 wsX7_measure A := ⟨⟨hx, hb, hml, hown, hts⟩, hK, hA, hG⟩
  have hl : lv_has ls 2 [(0, .ref (a b)), (1, .int k)] := hl
  refine lv_iload_n hx hb dX7_measure_0 rfl (lv_at hl 1 rfl) ?_
  refine lv_i2l (v := k.toInt64) hx hb dX7_measure_1 rfl ?_
  refine lv_lconst (v := 0) hx hb dX7_measure_2 (by decide) ?_
  refine lv_ldc2 hx hb hown (hts (.constantLong RX7 219 (3)) (List.mem_of_getElem? (i := 1) rfl)) dX7_measure_3 ?_
  refine ca_Si hh hl.1 (c_X7_in Γ l (k.toInt64) 0 3) (va_cwS 3 hts gX7_measure_X7_in rfl rfl rfl (by decide +kernel) ⟨(Nat.le_of_ble_eq_true rfl), (Nat.le_of_ble_eq_true rfl)⟩) (As := [.long (k.toInt64), .long 0, .long 3]) (rest := []) rfl dX7_measure_6 rfl (Nat.le_of_ble_eq_true rfl) hP hD hS ⟨Nat.zero_le _, Nat.zero_le _⟩ (fun H locs hP hS => ?_)
  refine lv_if_eq (tgt := 25) hx hb dX7_measure_9 (by decide) (fun c_9 => ?_) (fun c_9 => ?_)
  · -- yes
    refine lv_ldc2 hx hb hown (hts (.constantLong RX7 221 (-2000000001)) (List.mem_of_getElem? (i := 3) rfl)) dX7_measure_25 ?_
    exact re_l hQ ha hx hb hr hlk hAe hP hS dX7_measure_28 (by simp only [jMeasure, c_9, if_true, if_false]) rfl
  · -- no
    refine lv_aload_n hx hb dX7_measure_12 rfl (lv_at hl 0 rfl) ?_
    refine va_get (D := gD Γ) (cl := vwCl) (tys := gTy Γ) (ci := 7) (v := .ref (a (b + 1))) (C := RX7) (T := TX7) (N := 18) hx hb hts iX7_measure_7 hown hK hP 0 rfl rfl 0 (Nat.le_of_ble_eq_true rfl) (hts (.fieldLink RX7 7 "DeadTimeLoopModel" "now" "[J") (List.mem_of_getElem? (i := 2) rfl)) (fun _ h9 => h9) rfl dX7_measure_13 ?_
    refine lv_sipush (v := 656) hx hb dX7_measure_16 (by decide) ?_
    refine lv_iload_n hx hb dX7_measure_19 rfl (lv_at hl 1 rfl) ?_
    refine lv_iadd hx hb dX7_measure_20 ?_
    refine ka_lald (D := gD Γ) (cl := vwCl) (tys := gTy Γ) hx hb hK hP 1 1 rfl rfl (656 + k.toNatClampNeg) (by obtain ⟨q1, q2, q3⟩ := rng_of 0 3 (by decide) (by decide) c_9; rw [q1, nI_clamp (by omega)]; exact nI_add 656 _) (by have := in_lt (in_of 3 (by decide) c_9); omega) (by decide) (v := ((mNow μ) (656 + k.toNatClampNeg))) rfl dX7_measure_21 ?_
    refine lv_goto (tgt := 28) hx hb dX7_measure_22 (by decide) ?_
    exact re_l hQ ha hx hb hr hlk hAe hP hS dX7_measure_28 (by simp only [jMeasure, c_9, if_true, if_false]) rfl
def rm_X7_settledTicks : Room := { frames := 1, cells := 0, slots := 0, locals := 25 }
theorem iX7_settledTicks_7 : ∀ w ∈ u_ws RX7 TX7 18, w ∈ wsX7_settledTicks := fun w h => (List.mem_cons_of_mem _ (List.mem_append_right _ h))
set_option maxHeartbeats 1000000 in
set_option maxRecDepth 100000 in
theorem c_X7_settledTicks (Γ : gT) (l : Launch) (a : Nat → Nat) (b : Nat) (μ : Mst) (tol : Int32)  : Ci Γ l yX7_settledTicks wsX7_settledTicks rm_X7_settledTicks [.ref (a b), .int tol] (modW Γ a b μ) (jSettled μ tol) (modW Γ a b μ) := by
  refine Ci.of (cc := cX7_settledTicks) (own := RX7) (nL := 3) (ret := (some .int)) (by decide +kernel) rfl rfl (Nat.le_of_ble_eq_true rfl) ?_
  intro p e s m args below meth c A Q H locs ls ha hAe hQ hx hb hml hr hts hown hlk hP hK hD hS hA hG hl
  have hh : Hd Γ p s m args c cX7_settledTicks RX7 3 wsX7_settledTicks A := ⟨⟨hx, hb, hml, hown, hts⟩, hK, hA, hG⟩
  have hl : lv_has ls 3 [(0, .ref (a b)), (1, .int tol)] := hl
  refine lv_iload_n hx hb dX7_settledTicks_0 rfl (lv_at hl 1 rfl) ?_
  refine lv_i2l (v := tol.toInt64) hx hb dX7_settledTicks_1 rfl ?_
  refine lv_lconst (v := 0) hx hb dX7_settledTicks_2 (by decide) ?_
  refine lv_ldc2 hx hb hown (hts (.constantLong RX7 86 (100000)) (List.mem_of_getElem? (i := 1) rfl)) dX7_settledTicks_3 ?_
  refine ca_Si hh hl.1 (c_X7_in Γ l (tol.toInt64) 0 100000) (va_cwS 3 hts gX7_settledTicks_X7_in rfl rfl rfl (by decide +kernel) ⟨(Nat.le_of_ble_eq_true rfl), (Nat.le_of_ble_eq_true rfl)⟩) (As := [.long (tol.toInt64), .long 0, .long 100000]) (rest := []) rfl dX7_settledTicks_6 rfl (Nat.le_of_ble_eq_true rfl) hP hD hS ⟨Nat.zero_le _, Nat.zero_le _⟩ (fun H locs hP hS => ?_)
  refine lv_if_ne (tgt := 15) hx hb dX7_settledTicks_9 (by decide) (fun c_9 => ?_) (fun c_9 => ?_)
  · -- yes
    refine lv_iconst (v := 0) hx hb dX7_settledTicks_15 (by decide) ?_
    refine lv_istore_n (lv' := [(2, .int 0), (0, .ref (a b)), (1, .int tol)]) hx hb dX7_settledTicks_16 rfl hl (by decide) rfl (fun ls hl => ?_)
    have hJ_17 : ∀ n : Nat, ∀ (i : Nat) (y : Int32), (y = nI i) → (i ≤ 64) → (65 ≤ i + n) → (mSetN (mNow μ) tol n i = mSetN (mNow μ) tol 65 0) → ∀ (H : Heap) (locs : List Loc) (ls : Array Slot), va_P (gD Γ) vwCl (modW Γ a b μ) H → va_D A (modW Γ a b μ) → va_S A s.heap H locs → lv_has ls 3 [(0, .ref (a b)), (1, .int tol), (2, .int y)] → W p l e rm_X7_settledTicks s m args below meth c H locs 0 0 Q (F0 m 17 ls []) := by
      intro n
      induction n with
      | zero =>
        intro i y ey hi hn hg
        omega
      | succ n ih =>
        intro i y ey hi hn hg H locs ls hP hD hS hl
        refine lv_iload_n hx hb dX7_settledTicks_17 rfl (lv_at hl 2 rfl) ?_
        refine lv_bipush (v := 64) hx hb dX7_settledTicks_18 (by decide) ?_
        refine lv_icmp_ge (tgt := 89) hx hb dX7_settledTicks_20 (by decide) (fun c_20 => ?_) (fun c_20 => ?_)
        · -- yes
          refine lv_iload_n hx hb dX7_settledTicks_89 rfl (lv_at hl 2 rfl) ?_
          exact re_i hQ ha hx hb hr hlk hAe hP hS dX7_settledTicks_90 (by rw [jSettled, if_neg c_9, ← hg, mSetN_s]; subst ey; (try first | rw [if_pos c_9] | rw [if_neg c_9]); (try first | rw [if_pos c_20] | rw [if_neg c_20])) rfl
        · -- no
          refine lv_iload_n hx hb dX7_settledTicks_23 rfl (lv_at hl 2 rfl) ?_
          refine lv_i2l (v := y.toInt64) hx hb dX7_settledTicks_24 rfl ?_
          refine lv_aload_n hx hb dX7_settledTicks_25 rfl (lv_at hl 0 rfl) ?_
          refine va_get (D := gD Γ) (cl := vwCl) (tys := gTy Γ) (ci := 7) (v := .ref (a (b + 1))) (C := RX7) (T := TX7) (N := 18) hx hb hts iX7_settledTicks_7 hown hK hP 0 rfl rfl 0 (Nat.le_of_ble_eq_true rfl) (hts (.fieldLink RX7 7 "DeadTimeLoopModel" "now" "[J") (List.mem_of_getElem? (i := 3) rfl)) (fun _ h9 => h9) rfl dX7_settledTicks_26 ?_
          refine lv_sipush (v := 659) hx hb dX7_settledTicks_29 (by decide) ?_
          refine ka_lald (D := gD Γ) (cl := vwCl) (tys := gTy Γ) hx hb hK hP 1 1 rfl rfl 659 (by decide) (by decide) (by decide) (v := ((mNow μ) 659)) rfl dX7_settledTicks_32 ?_
          refine W.lcmp hx hb dX7_settledTicks_33 ?_
          refine lv_if_ge (tgt := 89) hx hb dX7_settledTicks_34 (by decide) (fun c_34 => ?_) (fun c_34 => ?_)
          · -- yes
            have c_34 := (lg_cmp_ge _ _).mp c_34
            refine lv_iload_n hx hb dX7_settledTicks_89 rfl (lv_at hl 2 rfl) ?_
            exact re_i hQ ha hx hb hr hlk hAe hP hS dX7_settledTicks_90 (by rw [jSettled, if_neg c_9, ← hg, mSetN_s]; subst ey; (try first | rw [if_pos c_9] | rw [if_neg c_9]); (try first | rw [if_pos c_20] | rw [if_neg c_20]); (try first | rw [if_pos c_34] | rw [if_neg c_34])) rfl
          · -- no
            have c_34 := mt (lg_cmp_ge _ _).mpr c_34
            refine lv_aload_n hx hb dX7_settledTicks_37 rfl (lv_at hl 0 rfl) ?_
            refine lv_iconst (v := 0) hx hb dX7_settledTicks_38 (by decide) ?_
            refine lv_aload_n hx hb dX7_settledTicks_39 rfl (lv_at hl 0 rfl) ?_
            refine va_get (D := gD Γ) (cl := vwCl) (tys := gTy Γ) (ci := 7) (v := .ref (a (b + 1))) (C := RX7) (T := TX7) (N := 18) hx hb hts iX7_settledTicks_7 hown hK hP 0 rfl rfl 0 (Nat.le_of_ble_eq_true rfl) (hts (.fieldLink RX7 7 "DeadTimeLoopModel" "now" "[J") (List.mem_of_getElem? (i := 3) rfl)) (fun _ h9 => h9) rfl dX7_settledTicks_40 ?_
            refine lv_sipush (v := 640) hx hb dX7_settledTicks_43 (by decide) ?_
            refine ka_lald (D := gD Γ) (cl := vwCl) (tys := gTy Γ) hx hb hK hP 1 1 rfl rfl 640 (by decide) (by decide) (by decide) (v := ((mNow μ) 640)) rfl dX7_settledTicks_46 ?_
            refine lv_lconst (v := 1) hx hb dX7_settledTicks_47 (by decide) ?_
            refine lv_lsub hx hb dX7_settledTicks_48 ?_
            refine lv_iload_n hx hb dX7_settledTicks_49 rfl (lv_at hl 2 rfl) ?_
            refine lv_i2l (v := y.toInt64) hx hb dX7_settledTicks_50 rfl ?_
            refine lv_lsub hx hb dX7_settledTicks_51 ?_
            refine ca_Vla hh hl.1 (c_X7_at Γ l a b μ 0 ((((mNow μ) 640) - 1) - (y.toInt64)) (vin_lit 0 (by decide) (by decide) rfl)) (cwV 2 hts gX7_settledTicks_X7_at rfl rfl rfl (by decide +kernel) ⟨(Nat.le_of_ble_eq_true rfl), (Nat.le_of_ble_eq_true rfl)⟩) (As := [.int 0, .long ((((mNow μ) 640) - 1) - (y.toInt64))]) (rest := []) rfl dX7_settledTicks_52 rfl (Nat.le_of_ble_eq_true rfl) hP hD hS (q0 := 0) (ci := 7) rfl rfl rfl (wf := modW Γ a b μ) rfl ⟨Nat.zero_le _, Nat.zero_le _⟩ (fun H locs hP hD hS => ?_)
            refine lv_aload_n hx hb dX7_settledTicks_55 rfl (lv_at hl 0 rfl) ?_
            refine lv_iconst (v := 1) hx hb dX7_settledTicks_56 (by decide) ?_
            refine lv_aload_n hx hb dX7_settledTicks_57 rfl (lv_at hl 0 rfl) ?_
            refine va_get (D := gD Γ) (cl := vwCl) (tys := gTy Γ) (ci := 7) (v := .ref (a (b + 1))) (C := RX7) (T := TX7) (N := 18) hx hb hts iX7_settledTicks_7 hown hK hP 0 rfl rfl 0 (Nat.le_of_ble_eq_true rfl) (hts (.fieldLink RX7 7 "DeadTimeLoopModel" "now" "[J") (List.mem_of_getElem? (i := 3) rfl)) (fun _ h9 => h9) rfl dX7_settledTicks_58 ?_
            refine lv_sipush (v := 640) hx hb dX7_settledTicks_61 (by decide) ?_
            refine ka_lald (D := gD Γ) (cl := vwCl) (tys := gTy Γ) hx hb hK hP 1 1 rfl rfl 640 (by decide) (by decide) (by decide) (v := ((mNow μ) 640)) rfl dX7_settledTicks_64 ?_
            refine lv_lconst (v := 1) hx hb dX7_settledTicks_65 (by decide) ?_
            refine lv_lsub hx hb dX7_settledTicks_66 ?_
            refine lv_iload_n hx hb dX7_settledTicks_67 rfl (lv_at hl 2 rfl) ?_
            refine lv_i2l (v := y.toInt64) hx hb dX7_settledTicks_68 rfl ?_
            refine lv_lsub hx hb dX7_settledTicks_69 ?_
            refine ca_Vla hh hl.1 (c_X7_at Γ l a b μ 1 ((((mNow μ) 640) - 1) - (y.toInt64)) (vin_lit 1 (by decide) (by decide) rfl)) (cwV 2 hts gX7_settledTicks_X7_at rfl rfl rfl (by decide +kernel) ⟨(Nat.le_of_ble_eq_true rfl), (Nat.le_of_ble_eq_true rfl)⟩) (As := [.int 1, .long ((((mNow μ) 640) - 1) - (y.toInt64))]) (rest := [.long (mAt (mNow μ) 0 ((((mNow μ) 640) - 1) - (y.toInt64)))]) rfl dX7_settledTicks_70 rfl (Nat.le_of_ble_eq_true rfl) hP hD hS (q0 := 0) (ci := 7) rfl rfl rfl (wf := modW Γ a b μ) rfl ⟨Nat.zero_le _, Nat.zero_le _⟩ (fun H locs hP hD hS => ?_)
            refine lv_lsub hx hb dX7_settledTicks_73 ?_
            refine ca_Sl hh hl.1 (c_X7_size Γ l ((mAt (mNow μ) 0 ((((mNow μ) 640) - 1) - (y.toInt64))) - (mAt (mNow μ) 1 ((((mNow μ) 640) - 1) - (y.toInt64))))) (va_cwS 1 hts gX7_settledTicks_X7_size rfl rfl rfl (by decide +kernel) ⟨(Nat.le_of_ble_eq_true rfl), (Nat.le_of_ble_eq_true rfl)⟩) (As := [.long ((mAt (mNow μ) 0 ((((mNow μ) 640) - 1) - (y.toInt64))) - (mAt (mNow μ) 1 ((((mNow μ) 640) - 1) - (y.toInt64))))]) (rest := []) rfl dX7_settledTicks_74 rfl (Nat.le_of_ble_eq_true rfl) hP hD hS ⟨Nat.zero_le _, Nat.zero_le _⟩ (fun H locs hP hS => ?_)
            refine lv_iload_n hx hb dX7_settledTicks_77 rfl (lv_at hl 1 rfl) ?_
            refine lv_i2l (v := tol.toInt64) hx hb dX7_settledTicks_78 rfl ?_
            refine W.lcmp hx hb dX7_settledTicks_79 ?_
            refine lv_if_gt (tgt := 89) hx hb dX7_settledTicks_80 (by decide) (fun c_80 => ?_) (fun c_80 => ?_)
            · -- yes
              have c_80 := (lg_cmp_gt _ _).mp c_80
              refine lv_iload_n hx hb dX7_settledTicks_89 rfl (lv_at hl 2 rfl) ?_
              exact re_i hQ ha hx hb hr hlk hAe hP hS dX7_settledTicks_90 (by rw [jSettled, if_neg c_9, ← hg, mSetN_s]; subst ey; (try first | rw [if_pos c_9] | rw [if_neg c_9]); (try first | rw [if_pos c_20] | rw [if_neg c_20]); (try first | rw [if_pos c_34] | rw [if_neg c_34]); (try first | rw [if_pos c_80] | rw [if_neg c_80])) rfl
            · -- no
              have c_80 := mt (lg_cmp_gt _ _).mpr c_80
              refine lv_iinc (v := (y + 1)) (lv' := [(2, .int (y + 1)), (0, .ref (a b)), (1, .int tol)]) hx hb dX7_settledTicks_83 hl (k := 2) rfl rfl (by decide) rfl (fun ls hl => ?_)
              refine lv_goto (tgt := 17) hx hb dX7_settledTicks_86 (by decide) ?_
              exact ih (i + 1) _ (by rw [ey]; exact nI_1 i) (by have := lt_of_nle (i := i) (k := 64) (by rw [← ey]; exact c_20) (by omega) (by decide); omega) (by omega) (by rw [← hg, mSetN_s]; subst ey; (try first | rw [if_pos c_9] | rw [if_neg c_9]); (try first | rw [if_pos c_20] | rw [if_neg c_20]); (try first | rw [if_pos c_34] | rw [if_neg c_34]); (try first | rw [if_pos c_80] | rw [if_neg c_80])) _ _ _ hP hD hS (lv_sub hl [1, 2, 0] rfl)
    exact hJ_17 65 0 0 rfl (by omega) (by omega) rfl _ _ _ hP hD hS (lv_sub hl [1, 2, 0] rfl)
  · -- no
    refine lv_ldc hx hb hown (hts (.constant RX7 74 (-2000000001)) (List.mem_of_getElem? (i := 2) rfl)) dX7_settledTicks_12 ?_
    exact re_i hQ ha hx hb hr hlk hAe hP hS dX7_settledTicks_14 (by simp only [jSettled, c_9, if_true, if_false]) rfl
def rm_X7_store : Room := { frames := 0, cells := 0, slots := 0, locals := 0 }
theorem iX7_store_7 : ∀ w ∈ u_ws RX7 TX7 18, w ∈ wsX7_store := fun w h => (List.mem_cons_of_mem _ (List.mem_append_right _ h))
set_option maxHeartbeats 1000000 in
set_option maxRecDepth 100000 in
theorem c_X7_store (Γ : gT) (l : Launch) (a : Nat → Nat) (b : Nat) (μ : Mst) (hkm : kOk (mKm μ)) : Ci Γ l yX7_store wsX7_store rm_X7_store [.ref (a b)] (modW Γ a b μ) (jStore μ ) (modW Γ a b (hStore μ )) := by
  refine Ci.of (cc := cX7_store) (own := RX7) (nL := 2) (ret := (some .int)) (by decide +kernel) rfl rfl (Nat.le_of_ble_eq_true rfl) ?_
  intro p e s m args below meth c A Q H locs ls ha hAe hQ hx hb hml hr hts hown hlk hP hK hD hS hA hG hl
  have hh : Hd Γ p s m args c cX7_store RX7 2 wsX7_store A := ⟨⟨hx, hb, hml, hown, hts⟩, hK, hA, hG⟩
  have hl : lv_has ls 2 [(0, .ref (a b))] := hl
  refine lv_aload_n hx hb dX7_store_0 rfl (lv_at hl 0 rfl) ?_
  refine va_get (D := gD Γ) (cl := vwCl) (tys := gTy Γ) (ci := 7) (v := .int (mKm μ)) (C := RX7) (T := TX7) (N := 18) hx hb hts iX7_store_7 hown hK hP 0 rfl rfl 3 (Nat.le_of_ble_eq_true rfl) (hts (.fieldLink RX7 207 "DeadTimeLoopModel" "keptMany" "I") (List.mem_of_getElem? (i := 1) rfl)) (fun _ h9 => h9) rfl dX7_store_1 ?_
  refine lv_iconst (v := 2) hx hb dX7_store_4 (by decide) ?_
  refine lv_icmp_ne (tgt := 11) hx hb dX7_store_5 (by decide) (fun c_5 => ?_) (fun c_5 => ?_)
  · -- yes
    obtain ⟨K, hK2, eK⟩ := hkm
    have hK1 : K < 2 := by rcases Nat.lt_or_ge K 2 with q | q; exact q; exact absurd (eK.trans (by rw [show K = 2 by omega]; rfl)) c_5
    refine lv_iconst (v := 0) hx hb dX7_store_11 (by decide) ?_
    refine lv_istore_n (lv' := [(1, .int 0), (0, .ref (a b))]) hx hb dX7_store_12 rfl hl (by decide) rfl (fun ls hl => ?_)
    have hJ_13 : ∀ n : Nat, ∀ (i : Nat) (x : Int32), (x = nI i) → (i ≤ 681) → (682 ≤ i + n) → ∀ (H : Heap) (locs : List Loc) (ls : Array Slot), va_P (gD Γ) vwCl (modW Γ a b ((mNow μ), (mAside μ), (mCpTo (mKept μ) (mNow μ) (681 * K) i), (mKm μ), (mPar μ), (mParA μ), (mBef μ), (mUm μ), (mLow μ), (mHigh μ), (mNames μ), (mLen μ), (mText μ), (mPath μ), (mIdeal μ), (mSpot μ), (mWhich μ), (mNum μ))) H → va_D A (modW Γ a b ((mNow μ), (mAside μ), (mCpTo (mKept μ) (mNow μ) (681 * K) i), (mKm μ), (mPar μ), (mParA μ), (mBef μ), (mUm μ), (mLow μ), (mHigh μ), (mNames μ), (mLen μ), (mText μ), (mPath μ), (mIdeal μ), (mSpot μ), (mWhich μ), (mNum μ))) → va_S A s.heap H locs → lv_has ls 2 [(0, .ref (a b)), (1, .int x)] → W p l e rm_X7_store s m args below meth c H locs 0 0 Q (F0 m 13 ls []) := by
      intro n
      induction n with
      | zero =>
        intro i x ex hi hn
        intro _ h1 h2; omega
      | succ n ih =>
        intro i x ex hi hn H locs ls hP hD hS hl
        refine lv_iload_n hx hb dX7_store_13 rfl (lv_at hl 1 rfl) ?_
        refine lv_sipush (v := 681) hx hb dX7_store_14 (by decide) ?_
        refine lv_icmp_ge (tgt := 47) hx hb dX7_store_17 (by decide) (fun c_17 => ?_) (fun c_17 => ?_)
        · -- yes
          refine lv_aload_n hx hb dX7_store_47 rfl (lv_at hl 0 rfl) ?_
          refine lv_dup hx hb dX7_store_48 rfl ?_
          refine va_get (D := gD Γ) (cl := vwCl) (tys := gTy Γ) (ci := 7) (v := .int (mKm μ)) (C := RX7) (T := TX7) (N := 18) hx hb hts iX7_store_7 hown hK hP 0 rfl rfl 3 (Nat.le_of_ble_eq_true rfl) (hts (.fieldLink RX7 207 "DeadTimeLoopModel" "keptMany" "I") (List.mem_of_getElem? (i := 1) rfl)) (fun _ h9 => h9) rfl dX7_store_49 ?_
          refine lv_iconst (v := 1) hx hb dX7_store_52 (by decide) ?_
          refine lv_iadd hx hb dX7_store_53 ?_
          refine va_put (D := gD Γ) (cl := vwCl) (tys := gTy Γ) (ci := 7) (v := .int ((mKm μ) + 1)) (ty := tyX7 3) (C := RX7) (T := TX7) (N := 18) hx hb hts iX7_store_7 tyX7 tyX7_ok nmX7 hown hK hP hD hS 0 rfl rfl 3 (Nat.le_of_ble_eq_true rfl) (hts (.fieldLink RX7 207 "DeadTimeLoopModel" "keptMany" "I") (List.mem_of_getElem? (i := 1) rfl)) (fun _ h9 => h9) rfl (tyX7_ok 3 (Nat.le_of_ble_eq_true rfl)) rfl rfl (Nat.le_of_ble_eq_true rfl) dX7_store_54 (fun H locs hP hD hS => ?_)
          have hP : va_P (gD Γ) vwCl (modW Γ a b ((mNow μ), (mAside μ), (mCpTo (mKept μ) (mNow μ) (681 * K) i), ((mKm μ) + 1), (mPar μ), (mParA μ), (mBef μ), (mUm μ), (mLow μ), (mHigh μ), (mNames μ), (mLen μ), (mText μ), (mPath μ), (mIdeal μ), (mSpot μ), (mWhich μ), (mNum μ))) H := hP
          have hD : va_D A (modW Γ a b ((mNow μ), (mAside μ), (mCpTo (mKept μ) (mNow μ) (681 * K) i), ((mKm μ) + 1), (mPar μ), (mParA μ), (mBef μ), (mUm μ), (mLow μ), (mHigh μ), (mNames μ), (mLen μ), (mText μ), (mPath μ), (mIdeal μ), (mSpot μ), (mWhich μ), (mNum μ))) := hD
          refine lv_aload_n hx hb dX7_store_57 rfl (lv_at hl 0 rfl) ?_
          refine va_get (D := gD Γ) (cl := vwCl) (tys := gTy Γ) (ci := 7) (v := .int ((mKm μ) + 1)) (C := RX7) (T := TX7) (N := 18) hx hb hts iX7_store_7 hown hK hP 0 rfl rfl 3 (Nat.le_of_ble_eq_true rfl) (hts (.fieldLink RX7 207 "DeadTimeLoopModel" "keptMany" "I") (List.mem_of_getElem? (i := 1) rfl)) (fun _ h9 => h9) rfl dX7_store_58 ?_
          exact re_i hQ ha hx hb hr hlk hAe hP hS dX7_store_61 (by simp only [jStore, c_5, c_17, if_true, if_false]) (by have hiN : i = 681 := (by have q0 := c_17; rw [ex] at q0; rcases Nat.lt_or_ge i 681 with q | q; exact absurd q0 (nI_ge q (by decide)); omega); rw [hiN]; simp only [hStore, mPut_kept, mPut_keptMany, c_5, if_true, if_false, show (mKm μ).toNatClampNeg = K from nI_of_place eK (by omega)])
        · -- no
          refine lv_aload_n hx hb dX7_store_20 rfl (lv_at hl 0 rfl) ?_
          refine va_get (D := gD Γ) (cl := vwCl) (tys := gTy Γ) (ci := 7) (v := .ref (a (b + 3))) (C := RX7) (T := TX7) (N := 18) hx hb hts iX7_store_7 hown hK hP 0 rfl rfl 2 (Nat.le_of_ble_eq_true rfl) (hts (.fieldLink RX7 16 "DeadTimeLoopModel" "kept" "[J") (List.mem_of_getElem? (i := 3) rfl)) (fun _ h9 => h9) rfl dX7_store_21 ?_
          refine lv_sipush (v := 681) hx hb dX7_store_24 (by decide) ?_
          refine lv_aload_n hx hb dX7_store_27 rfl (lv_at hl 0 rfl) ?_
          refine va_get (D := gD Γ) (cl := vwCl) (tys := gTy Γ) (ci := 7) (v := .int (mKm μ)) (C := RX7) (T := TX7) (N := 18) hx hb hts iX7_store_7 hown hK hP 0 rfl rfl 3 (Nat.le_of_ble_eq_true rfl) (hts (.fieldLink RX7 207 "DeadTimeLoopModel" "keptMany" "I") (List.mem_of_getElem? (i := 1) rfl)) (fun _ h9 => h9) rfl dX7_store_28 ?_
          refine lv_imul hx hb dX7_store_31 ?_
          refine lv_iload_n hx hb dX7_store_32 rfl (lv_at hl 1 rfl) ?_
          refine lv_iadd hx hb dX7_store_33 ?_
          refine lv_aload_n hx hb dX7_store_34 rfl (lv_at hl 0 rfl) ?_
          refine va_get (D := gD Γ) (cl := vwCl) (tys := gTy Γ) (ci := 7) (v := .ref (a (b + 1))) (C := RX7) (T := TX7) (N := 18) hx hb hts iX7_store_7 hown hK hP 0 rfl rfl 0 (Nat.le_of_ble_eq_true rfl) (hts (.fieldLink RX7 7 "DeadTimeLoopModel" "now" "[J") (List.mem_of_getElem? (i := 4) rfl)) (fun _ h9 => h9) rfl dX7_store_35 ?_
          refine lv_iload_n hx hb dX7_store_38 rfl (lv_at hl 1 rfl) ?_
          refine ka_lald (D := gD Γ) (cl := vwCl) (tys := gTy Γ) hx hb hK hP 1 1 rfl rfl i ex (lt_of_nle (k := 681) (by rw [← ex]; exact c_17) (by omega) (by decide)) (by decide) (v := ((mNow μ) i)) rfl dX7_store_39 ?_
          refine ka_last (D := gD Γ) (cl := vwCl) (tys := gTy Γ) hx hb hK hP hD hS 3 1 rfl rfl (681 * K + i) (by rw [eK, ex]; exact keep_ix 681 K i) (by have := lt_of_nle (i := i) (k := 681) (by rw [← ex]; exact c_17) (by omega) (by decide); omega) (by decide) (wf := modW Γ a b ((mNow μ), (mAside μ), (vp_updL (mCpTo (mKept μ) (mNow μ) (681 * K) i) (681 * K + i) ((mNow μ) i)), (mKm μ), (mPar μ), (mParA μ), (mBef μ), (mUm μ), (mLow μ), (mHigh μ), (mNames μ), (mLen μ), (mText μ), (mPath μ), (mIdeal μ), (mSpot μ), (mWhich μ), (mNum μ))) rfl dX7_store_40 (fun H locs hP hD hS => ?_)
          refine lv_iinc (v := (x + 1)) (lv' := [(1, .int (x + 1)), (0, .ref (a b))]) hx hb dX7_store_41 hl (k := 1) rfl rfl (by decide) rfl (fun ls hl => ?_)
          refine lv_goto (tgt := 13) hx hb dX7_store_44 (by decide) ?_
          exact ih (i + 1) _ (by rw [ex]; exact nI_1 i) (by have := lt_of_nle (i := i) (k := 681) (by rw [← ex]; exact c_17) (by omega) (by decide); omega) (by omega) _ _ _ hP hD hS (lv_sub hl [1, 0] rfl)
    exact hJ_13 682 0 0 rfl (by omega) (by omega) _ _ _ hP hD hS (lv_sub hl [1, 0] rfl)
  · -- no
    refine lv_ldc hx hb hown (hts (.constant RX7 97 (-2000000003)) (List.mem_of_getElem? (i := 2) rfl)) dX7_store_8 ?_
    exact re_i hQ ha hx hb hr hlk hAe hP hS dX7_store_10 (by simp only [jStore, c_5, if_true, if_false]) (by simp only [hStore, mPut_now, c_5, if_true, if_false])
def rm_X7_recall : Room := { frames := 0, cells := 0, slots := 0, locals := 0 }
theorem iX7_recall_7 : ∀ w ∈ u_ws RX7 TX7 18, w ∈ wsX7_recall := fun w h => (List.mem_cons_of_mem _ (List.mem_append_right _ h))
set_option maxHeartbeats 1000000 in
set_option maxRecDepth 100000 in
theorem c_X7_recall (Γ : gT) (l : Launch) (a : Nat → Nat) (b : Nat) (μ : Mst) (hkm : kOk (mKm μ)) : Ci Γ l yX7_recall wsX7_recall rm_X7_recall [.ref (a b)] (modW Γ a b μ) (jRecall μ ) (modW Γ a b (hRecall μ )) := by
  refine Ci.of (cc := cX7_recall) (own := RX7) (nL := 2) (ret := (some .int)) (by decide +kernel) rfl rfl (Nat.le_of_ble_eq_true rfl) ?_
  intro p e s m args below meth c A Q H locs ls ha hAe hQ hx hb hml hr hts hown hlk hP hK hD hS hA hG hl
  have hh : Hd Γ p s m args c cX7_recall RX7 2 wsX7_recall A := ⟨⟨hx, hb, hml, hown, hts⟩, hK, hA, hG⟩
  have hl : lv_has ls 2 [(0, .ref (a b))] := hl
  refine lv_aload_n hx hb dX7_recall_0 rfl (lv_at hl 0 rfl) ?_
  refine va_get (D := gD Γ) (cl := vwCl) (tys := gTy Γ) (ci := 7) (v := .int (mKm μ)) (C := RX7) (T := TX7) (N := 18) hx hb hts iX7_recall_7 hown hK hP 0 rfl rfl 3 (Nat.le_of_ble_eq_true rfl) (hts (.fieldLink RX7 207 "DeadTimeLoopModel" "keptMany" "I") (List.mem_of_getElem? (i := 1) rfl)) (fun _ h9 => h9) rfl dX7_recall_1 ?_
  refine lv_if_ne (tgt := 10) hx hb dX7_recall_4 (by decide) (fun c_4 => ?_) (fun c_4 => ?_)
  · -- yes
    obtain ⟨K, hK2, eK0⟩ := hkm
    have hK1 : 1 ≤ K := by rcases Nat.eq_zero_or_pos K with q | q; exact absurd (eK0.trans (by rw [q]; rfl)) c_4; exact q
    have eK : mKm μ - 1 = nI (K - 1) := by rw [eK0]; exact nI_pm hK1
    refine lv_aload_n hx hb dX7_recall_10 rfl (lv_at hl 0 rfl) ?_
    refine lv_dup hx hb dX7_recall_11 rfl ?_
    refine va_get (D := gD Γ) (cl := vwCl) (tys := gTy Γ) (ci := 7) (v := .int (mKm μ)) (C := RX7) (T := TX7) (N := 18) hx hb hts iX7_recall_7 hown hK hP 0 rfl rfl 3 (Nat.le_of_ble_eq_true rfl) (hts (.fieldLink RX7 207 "DeadTimeLoopModel" "keptMany" "I") (List.mem_of_getElem? (i := 1) rfl)) (fun _ h9 => h9) rfl dX7_recall_12 ?_
    refine lv_iconst (v := 1) hx hb dX7_recall_15 (by decide) ?_
    refine lv_isub hx hb dX7_recall_16 ?_
    refine va_put (D := gD Γ) (cl := vwCl) (tys := gTy Γ) (ci := 7) (v := .int ((mKm μ) - 1)) (ty := tyX7 3) (C := RX7) (T := TX7) (N := 18) hx hb hts iX7_recall_7 tyX7 tyX7_ok nmX7 hown hK hP hD hS 0 rfl rfl 3 (Nat.le_of_ble_eq_true rfl) (hts (.fieldLink RX7 207 "DeadTimeLoopModel" "keptMany" "I") (List.mem_of_getElem? (i := 1) rfl)) (fun _ h9 => h9) rfl (tyX7_ok 3 (Nat.le_of_ble_eq_true rfl)) rfl rfl (Nat.le_of_ble_eq_true rfl) dX7_recall_17 (fun H locs hP hD hS => ?_)
    have hP : va_P (gD Γ) vwCl (modW Γ a b ((mNow μ), (mAside μ), (mKept μ), ((mKm μ) - 1), (mPar μ), (mParA μ), (mBef μ), (mUm μ), (mLow μ), (mHigh μ), (mNames μ), (mLen μ), (mText μ), (mPath μ), (mIdeal μ), (mSpot μ), (mWhich μ), (mNum μ))) H := hP
    have hD : va_D A (modW Γ a b ((mNow μ), (mAside μ), (mKept μ), ((mKm μ) - 1), (mPar μ), (mParA μ), (mBef μ), (mUm μ), (mLow μ), (mHigh μ), (mNames μ), (mLen μ), (mText μ), (mPath μ), (mIdeal μ), (mSpot μ), (mWhich μ), (mNum μ))) := hD
    refine lv_iconst (v := 0) hx hb dX7_recall_20 (by decide) ?_
    refine lv_istore_n (lv' := [(1, .int 0), (0, .ref (a b))]) hx hb dX7_recall_21 rfl hl (by decide) rfl (fun ls hl => ?_)
    have hJ_22 : ∀ n : Nat, ∀ (i : Nat) (x : Int32), (x = nI i) → (i ≤ 681) → (682 ≤ i + n) → ∀ (H : Heap) (locs : List Loc) (ls : Array Slot), va_P (gD Γ) vwCl (modW Γ a b ((mCpFrom (mNow μ) (mKept μ) (681 * (K - 1)) i), (mAside μ), (mKept μ), ((mKm μ) - 1), (mPar μ), (mParA μ), (mBef μ), (mUm μ), (mLow μ), (mHigh μ), (mNames μ), (mLen μ), (mText μ), (mPath μ), (mIdeal μ), (mSpot μ), (mWhich μ), (mNum μ))) H → va_D A (modW Γ a b ((mCpFrom (mNow μ) (mKept μ) (681 * (K - 1)) i), (mAside μ), (mKept μ), ((mKm μ) - 1), (mPar μ), (mParA μ), (mBef μ), (mUm μ), (mLow μ), (mHigh μ), (mNames μ), (mLen μ), (mText μ), (mPath μ), (mIdeal μ), (mSpot μ), (mWhich μ), (mNum μ))) → va_S A s.heap H locs → lv_has ls 2 [(0, .ref (a b)), (1, .int x)] → W p l e rm_X7_recall s m args below meth c H locs 0 0 Q (F0 m 22 ls []) := by
      intro n
      induction n with
      | zero =>
        intro i x ex hi hn
        intro _ h1 h2; omega
      | succ n ih =>
        intro i x ex hi hn H locs ls hP hD hS hl
        refine lv_iload_n hx hb dX7_recall_22 rfl (lv_at hl 1 rfl) ?_
        refine lv_sipush (v := 681) hx hb dX7_recall_23 (by decide) ?_
        refine lv_icmp_ge (tgt := 56) hx hb dX7_recall_26 (by decide) (fun c_26 => ?_) (fun c_26 => ?_)
        · -- yes
          refine lv_aload_n hx hb dX7_recall_56 rfl (lv_at hl 0 rfl) ?_
          refine va_get (D := gD Γ) (cl := vwCl) (tys := gTy Γ) (ci := 7) (v := .int ((mKm μ) - 1)) (C := RX7) (T := TX7) (N := 18) hx hb hts iX7_recall_7 hown hK hP 0 rfl rfl 3 (Nat.le_of_ble_eq_true rfl) (hts (.fieldLink RX7 207 "DeadTimeLoopModel" "keptMany" "I") (List.mem_of_getElem? (i := 1) rfl)) (fun _ h9 => h9) rfl dX7_recall_57 ?_
          exact re_i hQ ha hx hb hr hlk hAe hP hS dX7_recall_60 (by simp only [jRecall, c_4, c_26, if_true, if_false]) (by have hiN : i = 681 := (by have q0 := c_26; rw [ex] at q0; rcases Nat.lt_or_ge i 681 with q | q; exact absurd q0 (nI_ge q (by decide)); omega); rw [hiN]; simp only [hRecall, mPut_now, mPut_keptMany, c_4, if_true, if_false, show (mKm μ - 1).toNatClampNeg = K - 1 from nI_of_place eK (by omega)])
        · -- no
          refine lv_aload_n hx hb dX7_recall_29 rfl (lv_at hl 0 rfl) ?_
          refine va_get (D := gD Γ) (cl := vwCl) (tys := gTy Γ) (ci := 7) (v := .ref (a (b + 1))) (C := RX7) (T := TX7) (N := 18) hx hb hts iX7_recall_7 hown hK hP 0 rfl rfl 0 (Nat.le_of_ble_eq_true rfl) (hts (.fieldLink RX7 7 "DeadTimeLoopModel" "now" "[J") (List.mem_of_getElem? (i := 3) rfl)) (fun _ h9 => h9) rfl dX7_recall_30 ?_
          refine lv_iload_n hx hb dX7_recall_33 rfl (lv_at hl 1 rfl) ?_
          refine lv_aload_n hx hb dX7_recall_34 rfl (lv_at hl 0 rfl) ?_
          refine va_get (D := gD Γ) (cl := vwCl) (tys := gTy Γ) (ci := 7) (v := .ref (a (b + 3))) (C := RX7) (T := TX7) (N := 18) hx hb hts iX7_recall_7 hown hK hP 0 rfl rfl 2 (Nat.le_of_ble_eq_true rfl) (hts (.fieldLink RX7 16 "DeadTimeLoopModel" "kept" "[J") (List.mem_of_getElem? (i := 4) rfl)) (fun _ h9 => h9) rfl dX7_recall_35 ?_
          refine lv_sipush (v := 681) hx hb dX7_recall_38 (by decide) ?_
          refine lv_aload_n hx hb dX7_recall_41 rfl (lv_at hl 0 rfl) ?_
          refine va_get (D := gD Γ) (cl := vwCl) (tys := gTy Γ) (ci := 7) (v := .int ((mKm μ) - 1)) (C := RX7) (T := TX7) (N := 18) hx hb hts iX7_recall_7 hown hK hP 0 rfl rfl 3 (Nat.le_of_ble_eq_true rfl) (hts (.fieldLink RX7 207 "DeadTimeLoopModel" "keptMany" "I") (List.mem_of_getElem? (i := 1) rfl)) (fun _ h9 => h9) rfl dX7_recall_42 ?_
          refine lv_imul hx hb dX7_recall_45 ?_
          refine lv_iload_n hx hb dX7_recall_46 rfl (lv_at hl 1 rfl) ?_
          refine lv_iadd hx hb dX7_recall_47 ?_
          refine ka_lald (D := gD Γ) (cl := vwCl) (tys := gTy Γ) hx hb hK hP 3 1 rfl rfl (681 * (K - 1) + i) (by rw [eK, ex]; exact keep_ix 681 (K - 1) i) (by have := lt_of_nle (i := i) (k := 681) (by rw [← ex]; exact c_26) (by omega) (by decide); omega) (by decide) (v := ((mKept μ) (681 * (K - 1) + i))) rfl dX7_recall_48 ?_
          refine ka_last (D := gD Γ) (cl := vwCl) (tys := gTy Γ) hx hb hK hP hD hS 1 1 rfl rfl i ex (lt_of_nle (k := 681) (by rw [← ex]; exact c_26) (by omega) (by decide)) (by decide) (wf := modW Γ a b ((vp_updL (mCpFrom (mNow μ) (mKept μ) (681 * (K - 1)) i) i ((mKept μ) (681 * (K - 1) + i))), (mAside μ), (mKept μ), ((mKm μ) - 1), (mPar μ), (mParA μ), (mBef μ), (mUm μ), (mLow μ), (mHigh μ), (mNames μ), (mLen μ), (mText μ), (mPath μ), (mIdeal μ), (mSpot μ), (mWhich μ), (mNum μ))) rfl dX7_recall_49 (fun H locs hP hD hS => ?_)
          refine lv_iinc (v := (x + 1)) (lv' := [(1, .int (x + 1)), (0, .ref (a b))]) hx hb dX7_recall_50 hl (k := 1) rfl rfl (by decide) rfl (fun ls hl => ?_)
          refine lv_goto (tgt := 22) hx hb dX7_recall_53 (by decide) ?_
          exact ih (i + 1) _ (by rw [ex]; exact nI_1 i) (by have := lt_of_nle (i := i) (k := 681) (by rw [← ex]; exact c_26) (by omega) (by decide); omega) (by omega) _ _ _ hP hD hS (lv_sub hl [1, 0] rfl)
    exact hJ_22 682 0 0 rfl (by omega) (by omega) _ _ _ hP hD hS (lv_sub hl [1, 0] rfl)
  · -- no
    refine lv_ldc hx hb hown (hts (.constant RX7 83 (-2000000002)) (List.mem_of_getElem? (i := 2) rfl)) dX7_recall_7 ?_
    exact re_i hQ ha hx hb hr hlk hAe hP hS dX7_recall_9 (by simp only [jRecall, c_4, if_true, if_false]) (by simp only [hRecall, mPut_now, c_4, if_true, if_false])
def rm_X7_correlationOf : Room := { frames := 1, cells := 0, slots := 0, locals := 23 }
theorem iX7_correlationOf_7 : ∀ w ∈ u_ws RX7 TX7 18, w ∈ wsX7_correlationOf := fun w h => (List.mem_cons_of_mem _ (List.mem_append_right _ h))
set_option maxHeartbeats 1000000 in
set_option maxRecDepth 100000 in
theorem c_X7_correlationOf (Γ : gT) (l : Launch) (a : Nat → Nat) (b : Nat) (μ : Mst) (lag : Int32) (N : Nat) (hN : mNow μ 640 = lN N) (hN2 : N < 2 ^ 31) : Cl Γ l yX7_correlationOf wsX7_correlationOf rm_X7_correlationOf [.ref (a b), .int lag] (modW Γ a b μ) (mCor (mNow μ) (mPar μ) lag) (modW Γ a b μ) := by
  refine Cl.of (cc := cX7_correlationOf) (own := RX7) (nL := 6) (ret := (some .long)) (by decide +kernel) rfl rfl (Nat.le_of_ble_eq_true rfl) ?_
  intro p e s m args below meth c A Q H locs ls ha hAe hQ hx hb hml hr hts hown hlk hP hK hD hS hA hG hl
  have hh : Hd Γ p s m args c cX7_correlationOf RX7 6 wsX7_correlationOf A := ⟨⟨hx, hb, hml, hown, hts⟩, hK, hA, hG⟩
  have hl : lv_has ls 6 [(0, .ref (a b)), (1, .int lag)] := hl
  refine lv_lconst (v := 0) hx hb dX7_correlationOf_0 (by decide) ?_
  refine lv_lstore_n (lv' := [(2, .long 0), (0, .ref (a b)), (1, .int lag)]) hx hb dX7_correlationOf_1 rfl hl (by decide) rfl (fun ls hl => ?_)
  refine lv_aload_n hx hb dX7_correlationOf_2 rfl (lv_at hl 1 rfl) ?_
  refine va_get (D := gD Γ) (cl := vwCl) (tys := gTy Γ) (ci := 7) (v := .ref (a (b + 1))) (C := RX7) (T := TX7) (N := 18) hx hb hts iX7_correlationOf_7 hown hK hP 0 rfl rfl 0 (Nat.le_of_ble_eq_true rfl) (hts (.fieldLink RX7 7 "DeadTimeLoopModel" "now" "[J") (List.mem_of_getElem? (i := 1) rfl)) (fun _ h9 => h9) rfl dX7_correlationOf_3 ?_
  refine lv_sipush (v := 640) hx hb dX7_correlationOf_6 (by decide) ?_
  refine ka_lald (D := gD Γ) (cl := vwCl) (tys := gTy Γ) hx hb hK hP 1 1 rfl rfl 640 (by decide) (by decide) (by decide) (v := ((mNow μ) 640)) rfl dX7_correlationOf_9 ?_
  refine lv_lconst (v := 1) hx hb dX7_correlationOf_10 (by decide) ?_
  refine lv_lsub hx hb dX7_correlationOf_11 ?_
  refine lv_lstore (lv' := [(4, .long (((mNow μ) 640) - 1)), (2, .long 0), (0, .ref (a b)), (1, .int lag)]) hx hb dX7_correlationOf_12 hl (by decide) rfl (fun ls hl => ?_)
  have hJ_14 : ∀ n : Nat, ∀ (i : Nat) (t : Int64) (sum : Int64), (t = (mNow μ 640 - 1) - lN i) → (i ≤ 32) → (33 ≤ i + n) → (mCorN (mNow μ) lag n t sum = mCorS (mNow μ) lag) → ∀ (H : Heap) (locs : List Loc) (ls : Array Slot), va_P (gD Γ) vwCl (modW Γ a b μ) H → va_D A (modW Γ a b μ) → va_S A s.heap H locs → lv_has ls 6 [(0, .ref (a b)), (1, .int lag), (2, .long sum), (4, .long t)] → W p l e rm_X7_correlationOf s m args below meth c H locs 0 0 Q (F0 m 14 ls []) := by
    intro n
    induction n with
    | zero =>
      intro i t sum et hi hn hg
      omega
    | succ n ih =>
      intro i t sum et hi hn hg H locs ls hP hD hS hl
      refine lv_lload hx hb dX7_correlationOf_14 (lv_at hl 3 rfl) ?_
      refine lv_lconst (v := 0) hx hb dX7_correlationOf_16 (by decide) ?_
      refine W.lcmp hx hb dX7_correlationOf_17 ?_
      refine lv_if_lt (tgt := 96) hx hb dX7_correlationOf_18 (by decide) (fun c_18 => ?_) (fun c_18 => ?_)
      · -- yes
        have c_18 := (lg_cmp_lt _ _).mp c_18
        refine lv_aload_n hx hb dX7_correlationOf_96 rfl (lv_at hl 0 rfl) ?_
        refine va_get (D := gD Γ) (cl := vwCl) (tys := gTy Γ) (ci := 7) (v := .ref (a (b + 4))) (C := RX7) (T := TX7) (N := 18) hx hb hts iX7_correlationOf_7 hown hK hP 0 rfl rfl 4 (Nat.le_of_ble_eq_true rfl) (hts (.fieldLink RX7 19 "DeadTimeLoopModel" "par" "[I") (List.mem_of_getElem? (i := 4) rfl)) (fun _ h9 => h9) rfl dX7_correlationOf_97 ?_
        refine lv_iconst (v := 5) hx hb dX7_correlationOf_100 (by decide) ?_
        refine ka_iald (D := gD Γ) (cl := vwCl) (tys := gTy Γ) hx hb hK hP 4 0 rfl rfl 5 (by decide) (by decide) (by decide) (v := ((mPar μ) 5)) rfl dX7_correlationOf_101 ?_
        refine lv_if_ge (tgt := 110) hx hb dX7_correlationOf_102 (by decide) (fun c_102 => ?_) (fun c_102 => ?_)
        · -- yes
          refine lv_lload_n hx hb dX7_correlationOf_110 rfl (lv_at hl 2 rfl) ?_
          exact re_l hQ ha hx hb hr hlk hAe hP hS dX7_correlationOf_111 (by rw [mCor, ← hg, mCorN_s]; (try first | rw [if_pos c_18] | rw [if_neg c_18]); (try first | rw [if_pos c_102] | rw [if_neg c_102])) rfl
        · -- no
          refine lv_lload_n hx hb dX7_correlationOf_105 rfl (lv_at hl 2 rfl) ?_
          refine lv_lneg hx hb dX7_correlationOf_106 ?_
          refine lv_goto (tgt := 111) hx hb dX7_correlationOf_107 (by decide) ?_
          exact re_l hQ ha hx hb hr hlk hAe hP hS dX7_correlationOf_111 (by rw [mCor, ← hg, mCorN_s]; (try first | rw [if_pos c_18] | rw [if_neg c_18]); (try first | rw [if_pos c_102] | rw [if_neg c_102])) rfl
      · -- no
        have c_18 := mt (lg_cmp_lt _ _).mpr c_18
        refine lv_lload hx hb dX7_correlationOf_21 (lv_at hl 3 rfl) ?_
        refine lv_aload_n hx hb dX7_correlationOf_23 rfl (lv_at hl 0 rfl) ?_
        refine va_get (D := gD Γ) (cl := vwCl) (tys := gTy Γ) (ci := 7) (v := .ref (a (b + 1))) (C := RX7) (T := TX7) (N := 18) hx hb hts iX7_correlationOf_7 hown hK hP 0 rfl rfl 0 (Nat.le_of_ble_eq_true rfl) (hts (.fieldLink RX7 7 "DeadTimeLoopModel" "now" "[J") (List.mem_of_getElem? (i := 1) rfl)) (fun _ h9 => h9) rfl dX7_correlationOf_24 ?_
        refine lv_sipush (v := 640) hx hb dX7_correlationOf_27 (by decide) ?_
        refine ka_lald (D := gD Γ) (cl := vwCl) (tys := gTy Γ) hx hb hK hP 1 1 rfl rfl 640 (by decide) (by decide) (by decide) (v := ((mNow μ) 640)) rfl dX7_correlationOf_30 ?_
        refine lv_ldc2 hx hb hown (hts (.constantLong RX7 90 (32)) (List.mem_of_getElem? (i := 2) rfl)) dX7_correlationOf_31 ?_
        refine lv_lsub hx hb dX7_correlationOf_34 ?_
        refine W.lcmp hx hb dX7_correlationOf_35 ?_
        refine lv_if_lt (tgt := 96) hx hb dX7_correlationOf_36 (by decide) (fun c_36 => ?_) (fun c_36 => ?_)
        · -- yes
          have c_36 := (lg_cmp_lt _ _).mp c_36
          refine lv_aload_n hx hb dX7_correlationOf_96 rfl (lv_at hl 0 rfl) ?_
          refine va_get (D := gD Γ) (cl := vwCl) (tys := gTy Γ) (ci := 7) (v := .ref (a (b + 4))) (C := RX7) (T := TX7) (N := 18) hx hb hts iX7_correlationOf_7 hown hK hP 0 rfl rfl 4 (Nat.le_of_ble_eq_true rfl) (hts (.fieldLink RX7 19 "DeadTimeLoopModel" "par" "[I") (List.mem_of_getElem? (i := 4) rfl)) (fun _ h9 => h9) rfl dX7_correlationOf_97 ?_
          refine lv_iconst (v := 5) hx hb dX7_correlationOf_100 (by decide) ?_
          refine ka_iald (D := gD Γ) (cl := vwCl) (tys := gTy Γ) hx hb hK hP 4 0 rfl rfl 5 (by decide) (by decide) (by decide) (v := ((mPar μ) 5)) rfl dX7_correlationOf_101 ?_
          refine lv_if_ge (tgt := 110) hx hb dX7_correlationOf_102 (by decide) (fun c_102b => ?_) (fun c_102b => ?_)
          · -- yes
            refine lv_lload_n hx hb dX7_correlationOf_110 rfl (lv_at hl 2 rfl) ?_
            exact re_l hQ ha hx hb hr hlk hAe hP hS dX7_correlationOf_111 (by rw [mCor, ← hg, mCorN_s]; (try first | rw [if_pos c_18] | rw [if_neg c_18]); (try first | rw [if_pos c_36] | rw [if_neg c_36]); (try first | rw [if_pos c_102b] | rw [if_neg c_102b])) rfl
          · -- no
            refine lv_lload_n hx hb dX7_correlationOf_105 rfl (lv_at hl 2 rfl) ?_
            refine lv_lneg hx hb dX7_correlationOf_106 ?_
            refine lv_goto (tgt := 111) hx hb dX7_correlationOf_107 (by decide) ?_
            exact re_l hQ ha hx hb hr hlk hAe hP hS dX7_correlationOf_111 (by rw [mCor, ← hg, mCorN_s]; (try first | rw [if_pos c_18] | rw [if_neg c_18]); (try first | rw [if_pos c_36] | rw [if_neg c_36]); (try first | rw [if_pos c_102b] | rw [if_neg c_102b])) rfl
        · -- no
          have c_36 := mt (lg_cmp_lt _ _).mpr c_36
          refine lv_lload_n hx hb dX7_correlationOf_39 rfl (lv_at hl 2 rfl) ?_
          refine lv_aload_n hx hb dX7_correlationOf_40 rfl (lv_at hl 0 rfl) ?_
          refine lv_iconst (v := 2) hx hb dX7_correlationOf_41 (by decide) ?_
          refine lv_lload hx hb dX7_correlationOf_42 (lv_at hl 3 rfl) ?_
          refine lv_lconst (v := 1) hx hb dX7_correlationOf_44 (by decide) ?_
          refine lv_lsub hx hb dX7_correlationOf_45 ?_
          refine lv_iload_n hx hb dX7_correlationOf_46 rfl (lv_at hl 1 rfl) ?_
          refine lv_i2l (v := lag.toInt64) hx hb dX7_correlationOf_47 rfl ?_
          refine lv_lsub hx hb dX7_correlationOf_48 ?_
          refine ca_Vla hh hl.1 (c_X7_at Γ l a b μ 2 ((t - 1) - (lag.toInt64)) (vin_lit 2 (by decide) (by decide) rfl)) (cwV 2 hts gX7_correlationOf_X7_at rfl rfl rfl (by decide +kernel) ⟨(Nat.le_of_ble_eq_true rfl), (Nat.le_of_ble_eq_true rfl)⟩) (As := [.int 2, .long ((t - 1) - (lag.toInt64))]) (rest := [.long sum]) rfl dX7_correlationOf_49 rfl (Nat.le_of_ble_eq_true rfl) hP hD hS (q0 := 0) (ci := 7) rfl rfl rfl (wf := modW Γ a b μ) rfl ⟨Nat.zero_le _, Nat.zero_le _⟩ (fun H locs hP hD hS => ?_)
          refine lv_aload_n hx hb dX7_correlationOf_52 rfl (lv_at hl 0 rfl) ?_
          refine lv_iconst (v := 2) hx hb dX7_correlationOf_53 (by decide) ?_
          refine lv_lload hx hb dX7_correlationOf_54 (lv_at hl 3 rfl) ?_
          refine lv_ldc2 hx hb hown (hts (.constantLong RX7 150 (2)) (List.mem_of_getElem? (i := 3) rfl)) dX7_correlationOf_56 ?_
          refine lv_lsub hx hb dX7_correlationOf_59 ?_
          refine lv_iload_n hx hb dX7_correlationOf_60 rfl (lv_at hl 1 rfl) ?_
          refine lv_i2l (v := lag.toInt64) hx hb dX7_correlationOf_61 rfl ?_
          refine lv_lsub hx hb dX7_correlationOf_62 ?_
          refine ca_Vla hh hl.1 (c_X7_at Γ l a b μ 2 ((t - 2) - (lag.toInt64)) (vin_lit 2 (by decide) (by decide) rfl)) (cwV 2 hts gX7_correlationOf_X7_at rfl rfl rfl (by decide +kernel) ⟨(Nat.le_of_ble_eq_true rfl), (Nat.le_of_ble_eq_true rfl)⟩) (As := [.int 2, .long ((t - 2) - (lag.toInt64))]) (rest := [.long (mAt (mNow μ) 2 ((t - 1) - (lag.toInt64))), .long sum]) rfl dX7_correlationOf_63 rfl (Nat.le_of_ble_eq_true rfl) hP hD hS (q0 := 0) (ci := 7) rfl rfl rfl (wf := modW Γ a b μ) rfl ⟨Nat.zero_le _, Nat.zero_le _⟩ (fun H locs hP hD hS => ?_)
          refine lv_lsub hx hb dX7_correlationOf_66 ?_
          refine lv_aload_n hx hb dX7_correlationOf_67 rfl (lv_at hl 0 rfl) ?_
          refine lv_iconst (v := 1) hx hb dX7_correlationOf_68 (by decide) ?_
          refine lv_lload hx hb dX7_correlationOf_69 (lv_at hl 3 rfl) ?_
          refine ca_Vla hh hl.1 (c_X7_at Γ l a b μ 1 t (vin_lit 1 (by decide) (by decide) rfl)) (cwV 2 hts gX7_correlationOf_X7_at rfl rfl rfl (by decide +kernel) ⟨(Nat.le_of_ble_eq_true rfl), (Nat.le_of_ble_eq_true rfl)⟩) (As := [.int 1, .long t]) (rest := [.long ((mAt (mNow μ) 2 ((t - 1) - (lag.toInt64))) - (mAt (mNow μ) 2 ((t - 2) - (lag.toInt64)))), .long sum]) rfl dX7_correlationOf_71 rfl (Nat.le_of_ble_eq_true rfl) hP hD hS (q0 := 0) (ci := 7) rfl rfl rfl (wf := modW Γ a b μ) rfl ⟨Nat.zero_le _, Nat.zero_le _⟩ (fun H locs hP hD hS => ?_)
          refine lv_aload_n hx hb dX7_correlationOf_74 rfl (lv_at hl 0 rfl) ?_
          refine lv_iconst (v := 1) hx hb dX7_correlationOf_75 (by decide) ?_
          refine lv_lload hx hb dX7_correlationOf_76 (lv_at hl 3 rfl) ?_
          refine lv_lconst (v := 1) hx hb dX7_correlationOf_78 (by decide) ?_
          refine lv_lsub hx hb dX7_correlationOf_79 ?_
          refine ca_Vla hh hl.1 (c_X7_at Γ l a b μ 1 (t - 1) (vin_lit 1 (by decide) (by decide) rfl)) (cwV 2 hts gX7_correlationOf_X7_at rfl rfl rfl (by decide +kernel) ⟨(Nat.le_of_ble_eq_true rfl), (Nat.le_of_ble_eq_true rfl)⟩) (As := [.int 1, .long (t - 1)]) (rest := [.long (mAt (mNow μ) 1 t), .long ((mAt (mNow μ) 2 ((t - 1) - (lag.toInt64))) - (mAt (mNow μ) 2 ((t - 2) - (lag.toInt64)))), .long sum]) rfl dX7_correlationOf_80 rfl (Nat.le_of_ble_eq_true rfl) hP hD hS (q0 := 0) (ci := 7) rfl rfl rfl (wf := modW Γ a b μ) rfl ⟨Nat.zero_le _, Nat.zero_le _⟩ (fun H locs hP hD hS => ?_)
          refine lv_lsub hx hb dX7_correlationOf_83 ?_
          refine lv_lmul hx hb dX7_correlationOf_84 ?_
          refine lv_ladd hx hb dX7_correlationOf_85 ?_
          refine lv_lstore_n (lv' := [(2, .long (sum + (((mAt (mNow μ) 2 ((t - 1) - (lag.toInt64))) - (mAt (mNow μ) 2 ((t - 2) - (lag.toInt64)))) * ((mAt (mNow μ) 1 t) - (mAt (mNow μ) 1 (t - 1)))))), (0, .ref (a b)), (1, .int lag), (4, .long t)]) hx hb dX7_correlationOf_86 rfl hl (by decide) rfl (fun ls hl => ?_)
          refine lv_lload hx hb dX7_correlationOf_87 (lv_at hl 3 rfl) ?_
          refine lv_lconst (v := 1) hx hb dX7_correlationOf_89 (by decide) ?_
          refine lv_lsub hx hb dX7_correlationOf_90 ?_
          refine lv_lstore (lv' := [(4, .long (t - 1)), (2, .long (sum + (((mAt (mNow μ) 2 ((t - 1) - (lag.toInt64))) - (mAt (mNow μ) 2 ((t - 2) - (lag.toInt64)))) * ((mAt (mNow μ) 1 t) - (mAt (mNow μ) 1 (t - 1)))))), (0, .ref (a b)), (1, .int lag)]) hx hb dX7_correlationOf_91 hl (by decide) rfl (fun ls hl => ?_)
          refine lv_goto (tgt := 14) hx hb dX7_correlationOf_93 (by decide) ?_
          exact ih (i + 1) _ _ (by rw [et]; exact lN_subsub _ i) (by have := cor_lt (N := N) (i := i) hN2 (by omega) (by rw [← hN, ← et]; exact c_36); omega) (by omega) (by rw [← hg, mCorN_s, if_neg c_18, if_neg c_36, mCorT]) _ _ _ hP hD hS (lv_sub hl [2, 3, 1, 0] rfl)
  exact hJ_14 33 0 _ 0 (by rw [show lN 0 = 0 from rfl, Int64.sub_zero]) (by omega) (by omega) rfl _ _ _ hP hD hS (lv_sub hl [2, 3, 1, 0] rfl)
def rm_X7_correlation : Room := { frames := 2, cells := 0, slots := 0, locals := 48 }
set_option maxHeartbeats 1000000 in
set_option maxRecDepth 100000 in
theorem c_X7_correlation (Γ : gT) (l : Launch) (a : Nat → Nat) (b : Nat) (μ : Mst) (lag : Int32) (N : Nat) (hN : mNow μ 640 = lN N) (hN2 : N < 2 ^ 31) : Cl Γ l yX7_correlation wsX7_correlation rm_X7_correlation [.ref (a b), .int lag] (modW Γ a b μ) (jCorrelation μ lag) (modW Γ a b μ) := by
  refine Cl.of (cc := cX7_correlation) (own := RX7) (nL := 2) (ret := (some .long)) (by decide +kernel) rfl rfl (Nat.le_of_ble_eq_true rfl) ?_
  intro p e s m args below meth c A Q H locs ls ha hAe hQ hx hb hml hr hts hown hlk hP hK hD hS hA hG hl
  have hh : Hd Γ p s m args c cX7_correlation RX7 2 wsX7_correlation A := ⟨⟨hx, hb, hml, hown, hts⟩, hK, hA, hG⟩
  have hl : lv_has ls 2 [(0, .ref (a b)), (1, .int lag)] := hl
  refine lv_iload_n hx hb dX7_correlation_0 rfl (lv_at hl 1 rfl) ?_
  refine lv_i2l (v := lag.toInt64) hx hb dX7_correlation_1 rfl ?_
  refine lv_lconst (v := 0) hx hb dX7_correlation_2 (by decide) ?_
  refine lv_ldc2 hx hb hown (hts (.constantLong RX7 223 (30)) (List.mem_of_getElem? (i := 1) rfl)) dX7_correlation_3 ?_
  refine ca_Si hh hl.1 (c_X7_in Γ l (lag.toInt64) 0 30) (va_cwS 3 hts gX7_correlation_X7_in rfl rfl rfl (by decide +kernel) ⟨(Nat.le_of_ble_eq_true rfl), (Nat.le_of_ble_eq_true rfl)⟩) (As := [.long (lag.toInt64), .long 0, .long 30]) (rest := []) rfl dX7_correlation_6 rfl (Nat.le_of_ble_eq_true rfl) hP hD hS ⟨Nat.zero_le _, Nat.zero_le _⟩ (fun H locs hP hS => ?_)
  refine lv_if_eq (tgt := 20) hx hb dX7_correlation_9 (by decide) (fun c_9 => ?_) (fun c_9 => ?_)
  · -- yes
    refine lv_ldc2 hx hb hown (hts (.constantLong RX7 221 (-2000000001)) (List.mem_of_getElem? (i := 2) rfl)) dX7_correlation_20 ?_
    exact re_l hQ ha hx hb hr hlk hAe hP hS dX7_correlation_23 (by simp only [jCorrelation, c_9, if_true, if_false]) rfl
  · -- no
    refine lv_aload_n hx hb dX7_correlation_12 rfl (lv_at hl 0 rfl) ?_
    refine lv_iload_n hx hb dX7_correlation_13 rfl (lv_at hl 1 rfl) ?_
    refine ca_Vla hh hl.1 (c_X7_correlationOf Γ l a b μ lag N hN hN2) (cwV 1 hts gX7_correlation_X7_correlationOf rfl rfl rfl (by decide +kernel) ⟨(Nat.le_of_ble_eq_true rfl), (Nat.le_of_ble_eq_true rfl)⟩) (As := [.int lag]) (rest := []) rfl dX7_correlation_14 rfl (Nat.le_of_ble_eq_true rfl) hP hD hS (q0 := 0) (ci := 7) rfl rfl rfl (wf := modW Γ a b μ) rfl ⟨Nat.zero_le _, Nat.zero_le _⟩ (fun H locs hP hD hS => ?_)
    refine lv_goto (tgt := 23) hx hb dX7_correlation_17 (by decide) ?_
    exact re_l hQ ha hx hb hr hlk hAe hP hS dX7_correlation_23 (by simp only [jCorrelation, c_9, if_true, if_false]) rfl
def rm_X7_bestLag : Room := { frames := 2, cells := 0, slots := 0, locals := 48 }
set_option maxHeartbeats 1000000 in
set_option maxRecDepth 100000 in
theorem c_X7_bestLag (Γ : gT) (l : Launch) (a : Nat → Nat) (b : Nat) (μ : Mst) (N : Nat) (hN : mNow μ 640 = lN N) (hN2 : N < 2 ^ 31) : Ci Γ l yX7_bestLag wsX7_bestLag rm_X7_bestLag [.ref (a b)] (modW Γ a b μ) (mLag (mNow μ) (mPar μ)) (modW Γ a b μ) := by
  refine Ci.of (cc := cX7_bestLag) (own := RX7) (nL := 7) (ret := (some .int)) (by decide +kernel) rfl rfl (Nat.le_of_ble_eq_true rfl) ?_
  intro p e s m args below meth c A Q H locs ls ha hAe hQ hx hb hml hr hts hown hlk hP hK hD hS hA hG hl
  have hh : Hd Γ p s m args c cX7_bestLag RX7 7 wsX7_bestLag A := ⟨⟨hx, hb, hml, hown, hts⟩, hK, hA, hG⟩
  have hl : lv_has ls 7 [(0, .ref (a b))] := hl
  refine lv_ldc hx hb hown (hts (.constant RX7 82 (-2000000004)) (List.mem_of_getElem? (i := 1) rfl)) dX7_bestLag_0 ?_
  refine lv_istore_n (lv' := [(1, .int (-2000000004)), (0, .ref (a b))]) hx hb dX7_bestLag_2 rfl hl (by decide) rfl (fun ls hl => ?_)
  refine lv_lconst (v := 0) hx hb dX7_bestLag_3 (by decide) ?_
  refine lv_lstore_n (lv' := [(2, .long 0), (1, .int (-2000000004)), (0, .ref (a b))]) hx hb dX7_bestLag_4 rfl hl (by decide) rfl (fun ls hl => ?_)
  refine lv_iconst (v := 0) hx hb dX7_bestLag_5 (by decide) ?_
  refine lv_istore (lv' := [(4, .int 0), (2, .long 0), (1, .int (-2000000004)), (0, .ref (a b))]) hx hb dX7_bestLag_6 hl (by decide) rfl (fun ls hl => ?_)
  have hJ_8 : ∀ n : Nat, ∀ (j : Nat) (y : Int32) (best : Int32) (most : Int64), (y = nI j) → (j ≤ 31) → (32 ≤ j + n) → (mLagN (mNow μ) (mPar μ) n j best most = mLag (mNow μ) (mPar μ)) → ∀ (H : Heap) (locs : List Loc) (ls : Array Slot), va_P (gD Γ) vwCl (modW Γ a b μ) H → va_D A (modW Γ a b μ) → va_S A s.heap H locs → lv_has ls 7 [(0, .ref (a b)), (1, .int best), (2, .long most), (4, .int y)] → W p l e rm_X7_bestLag s m args below meth c H locs 0 0 Q (F0 m 8 ls []) := by
    intro n
    induction n with
    | zero =>
      intro j y best most ey hj hn hg
      omega
    | succ n ih =>
      intro j y best most ey hj hn hg H locs ls hP hD hS hl
      refine lv_iload hx hb dX7_bestLag_8 (lv_at hl 3 rfl) ?_
      refine lv_bipush (v := 30) hx hb dX7_bestLag_10 (by decide) ?_
      refine lv_icmp_gt (tgt := 57) hx hb dX7_bestLag_12 (by decide) (fun c_12 => ?_) (fun c_12 => ?_)
      · -- yes
        refine lv_iload_n hx hb dX7_bestLag_57 rfl (lv_at hl 1 rfl) ?_
        exact re_i hQ ha hx hb hr hlk hAe hP hS dX7_bestLag_58 (by rw [← hg, mLagN_s]; subst ey; (try first | rw [if_pos c_12] | rw [if_neg c_12])) rfl
      · -- no
        refine lv_aload_n hx hb dX7_bestLag_15 rfl (lv_at hl 0 rfl) ?_
        refine lv_iload hx hb dX7_bestLag_16 (lv_at hl 3 rfl) ?_
        refine ca_Vla hh hl.1 (c_X7_correlationOf Γ l a b μ y N hN hN2) (cwV 1 hts gX7_bestLag_X7_correlationOf rfl rfl rfl (by decide +kernel) ⟨(Nat.le_of_ble_eq_true rfl), (Nat.le_of_ble_eq_true rfl)⟩) (As := [.int y]) (rest := []) rfl dX7_bestLag_18 rfl (Nat.le_of_ble_eq_true rfl) hP hD hS (q0 := 0) (ci := 7) rfl rfl rfl (wf := modW Γ a b μ) rfl ⟨Nat.zero_le _, Nat.zero_le _⟩ (fun H locs hP hD hS => ?_)
        refine lv_lstore (lv' := [(5, .long (mCor (mNow μ) (mPar μ) y)), (0, .ref (a b)), (1, .int best), (2, .long most), (4, .int y)]) hx hb dX7_bestLag_21 hl (by decide) rfl (fun ls hl => ?_)
        refine lv_lload hx hb dX7_bestLag_23 (lv_at hl 0 rfl) ?_
        refine lv_lload_n hx hb dX7_bestLag_25 rfl (lv_at hl 3 rfl) ?_
        refine W.lcmp hx hb dX7_bestLag_26 ?_
        refine lv_if_le (tgt := 35) hx hb dX7_bestLag_27 (by decide) (fun c_27 => ?_) (fun c_27 => ?_)
        · -- yes
          have c_27 := (lg_cmp_le _ _).mp c_27
          refine lv_iload_n hx hb dX7_bestLag_35 rfl (lv_at hl 2 rfl) ?_
          refine lv_istore_n (lv' := [(1, .int best), (5, .long (mCor (mNow μ) (mPar μ) y)), (0, .ref (a b)), (2, .long most), (4, .int y)]) hx hb dX7_bestLag_36 rfl hl (by decide) rfl (fun ls hl => ?_)
          refine lv_lload hx hb dX7_bestLag_37 (lv_at hl 1 rfl) ?_
          refine lv_lload_n hx hb dX7_bestLag_39 rfl (lv_at hl 3 rfl) ?_
          refine W.lcmp hx hb dX7_bestLag_40 ?_
          refine lv_if_le (tgt := 49) hx hb dX7_bestLag_41 (by decide) (fun _ => ?_) (fun c => absurd ((lg_cmp_le _ _).mpr c_27) c)
          refine lv_lload_n hx hb dX7_bestLag_49 rfl (lv_at hl 3 rfl) ?_
          refine lv_lstore_n (lv' := [(2, .long most), (1, .int best), (5, .long (mCor (mNow μ) (mPar μ) y)), (0, .ref (a b)), (4, .int y)]) hx hb dX7_bestLag_50 rfl hl (by decide) rfl (fun ls hl => ?_)
          refine lv_iinc (v := (y + 1)) (lv' := [(4, .int (y + 1)), (2, .long most), (1, .int best), (5, .long (mCor (mNow μ) (mPar μ) y)), (0, .ref (a b))]) hx hb dX7_bestLag_51 hl (k := 4) rfl rfl (by decide) rfl (fun ls hl => ?_)
          refine lv_goto (tgt := 8) hx hb dX7_bestLag_54 (by decide) ?_
          exact ih (j + 1) _ _ _ (by rw [ey]; exact nI_1 j) (by rw [ey, show (30 : Int32) = nI 30 from rfl, nI_ltI (by decide) (by omega)] at c_12; omega) (by omega) (by subst ey; rw [← hg, mLagN_s]; simp only [c_12, c_27, if_true, if_false]) _ _ _ hP hD hS (lv_sub hl [4, 2, 1, 0] rfl)
        · -- no
          have c_27 := mt (lg_cmp_le _ _).mpr c_27
          refine lv_iload hx hb dX7_bestLag_30 (lv_at hl 4 rfl) ?_
          refine lv_goto (tgt := 36) hx hb dX7_bestLag_32 (by decide) ?_
          refine lv_istore_n (lv' := [(1, .int y), (5, .long (mCor (mNow μ) (mPar μ) y)), (0, .ref (a b)), (2, .long most), (4, .int y)]) hx hb dX7_bestLag_36 rfl hl (by decide) rfl (fun ls hl => ?_)
          refine lv_lload hx hb dX7_bestLag_37 (lv_at hl 1 rfl) ?_
          refine lv_lload_n hx hb dX7_bestLag_39 rfl (lv_at hl 3 rfl) ?_
          refine W.lcmp hx hb dX7_bestLag_40 ?_
          refine lv_if_le (tgt := 49) hx hb dX7_bestLag_41 (by decide) (fun c => absurd c (mt (lg_cmp_le _ _).mp c_27)) (fun _ => ?_)
          refine lv_lload hx hb dX7_bestLag_44 (lv_at hl 1 rfl) ?_
          refine lv_goto (tgt := 50) hx hb dX7_bestLag_46 (by decide) ?_
          refine lv_lstore_n (lv' := [(2, .long (mCor (mNow μ) (mPar μ) y)), (1, .int y), (5, .long (mCor (mNow μ) (mPar μ) y)), (0, .ref (a b)), (4, .int y)]) hx hb dX7_bestLag_50 rfl hl (by decide) rfl (fun ls hl => ?_)
          refine lv_iinc (v := (y + 1)) (lv' := [(4, .int (y + 1)), (2, .long (mCor (mNow μ) (mPar μ) y)), (1, .int y), (5, .long (mCor (mNow μ) (mPar μ) y)), (0, .ref (a b))]) hx hb dX7_bestLag_51 hl (k := 4) rfl rfl (by decide) rfl (fun ls hl => ?_)
          refine lv_goto (tgt := 8) hx hb dX7_bestLag_54 (by decide) ?_
          exact ih (j + 1) _ _ _ (by rw [ey]; exact nI_1 j) (by rw [ey, show (30 : Int32) = nI 30 from rfl, nI_ltI (by decide) (by omega)] at c_12; omega) (by omega) (by subst ey; rw [← hg, mLagN_s]; simp only [c_12, c_27, if_true, if_false]) _ _ _ hP hD hS (lv_sub hl [4, 2, 1, 0] rfl)
  exact hJ_8 32 0 0 _ _ rfl (by omega) (by omega) rfl _ _ _ hP hD hS (lv_sub hl [3, 2, 1, 0] rfl)
def rm_X7_estimatedLag : Room := { frames := 3, cells := 0, slots := 0, locals := 74 }
set_option maxHeartbeats 1000000 in
set_option maxRecDepth 100000 in
theorem c_X7_estimatedLag (Γ : gT) (l : Launch) (a : Nat → Nat) (b : Nat) (μ : Mst) (N : Nat) (hN : mNow μ 640 = lN N) (hN2 : N < 2 ^ 31) : Ci Γ l yX7_estimatedLag wsX7_estimatedLag rm_X7_estimatedLag [.ref (a b)] (modW Γ a b μ) (mLag (mNow μ) (mPar μ)) (modW Γ a b μ) := by
  refine Ci.of (cc := cX7_estimatedLag) (own := RX7) (nL := 1) (ret := (some .int)) (by decide +kernel) rfl rfl (Nat.le_of_ble_eq_true rfl) ?_
  intro p e s m args below meth c A Q H locs ls ha hAe hQ hx hb hml hr hts hown hlk hP hK hD hS hA hG hl
  have hh : Hd Γ p s m args c cX7_estimatedLag RX7 1 wsX7_estimatedLag A := ⟨⟨hx, hb, hml, hown, hts⟩, hK, hA, hG⟩
  have hl : lv_has ls 1 [(0, .ref (a b))] := hl
  refine lv_aload_n hx hb dX7_estimatedLag_0 rfl (lv_at hl 0 rfl) ?_
  refine ca_Via hh hl.1 (c_X7_bestLag Γ l a b μ N hN hN2) (cwV 0 hts gX7_estimatedLag_X7_bestLag rfl rfl rfl (by decide +kernel) ⟨(Nat.le_of_ble_eq_true rfl), (Nat.le_of_ble_eq_true rfl)⟩) (As := []) (rest := []) rfl dX7_estimatedLag_1 rfl (Nat.le_of_ble_eq_true rfl) hP hD hS (q0 := 0) (ci := 7) rfl rfl rfl (wf := modW Γ a b μ) rfl ⟨Nat.zero_le _, Nat.zero_le _⟩ (fun H locs hP hD hS => ?_)
  exact re_i hQ ha hx hb hr hlk hAe hP hS dX7_estimatedLag_4 rfl rfl
def rm_X7_tuneDelay : Room := { frames := 3, cells := 0, slots := 0, locals := 74 }
theorem iX7_tuneDelay_7 : ∀ w ∈ u_ws RX7 TX7 18, w ∈ wsX7_tuneDelay := fun w h => (List.mem_cons_of_mem _ (List.mem_append_right _ h))
set_option maxHeartbeats 1000000 in
set_option maxRecDepth 100000 in
theorem c_X7_tuneDelay (Γ : gT) (l : Launch) (a : Nat → Nat) (b : Nat) (μ : Mst) (N : Nat) (hN : mNow μ 640 = lN N) (hN2 : N < 2 ^ 31) (hu : uOk (mUm μ)) : Ci Γ l yX7_tuneDelay wsX7_tuneDelay rm_X7_tuneDelay [.ref (a b)] (modW Γ a b μ) (jTune μ ) (modW Γ a b (hTune μ )) := by
  refine Ci.of (cc := cX7_tuneDelay) (own := RX7) (nL := 4) (ret := (some .int)) (by decide +kernel) rfl rfl (Nat.le_of_ble_eq_true rfl) ?_
  intro p e s m args below meth c A Q H locs ls ha hAe hQ hx hb hml hr hts hown hlk hP hK hD hS hA hG hl
  have hh : Hd Γ p s m args c cX7_tuneDelay RX7 4 wsX7_tuneDelay A := ⟨⟨hx, hb, hml, hown, hts⟩, hK, hA, hG⟩
  have hl : lv_has ls 4 [(0, .ref (a b))] := hl
  refine lv_aload_n hx hb dX7_tuneDelay_0 rfl (lv_at hl 0 rfl) ?_
  refine ca_Via hh hl.1 (c_X7_bestLag Γ l a b μ N hN hN2) (cwV 0 hts gX7_tuneDelay_X7_bestLag rfl rfl rfl (by decide +kernel) ⟨(Nat.le_of_ble_eq_true rfl), (Nat.le_of_ble_eq_true rfl)⟩) (As := []) (rest := []) rfl dX7_tuneDelay_1 rfl (Nat.le_of_ble_eq_true rfl) hP hD hS (q0 := 0) (ci := 7) rfl rfl rfl (wf := modW Γ a b μ) rfl ⟨Nat.zero_le _, Nat.zero_le _⟩ (fun H locs hP hD hS => ?_)
  refine lv_istore_n (lv' := [(1, .int (mLag (mNow μ) (mPar μ))), (0, .ref (a b))]) hx hb dX7_tuneDelay_4 rfl hl (by decide) rfl (fun ls hl => ?_)
  have hJ_17 : ∀ n : Nat, ∀ (j : Nat) (y : Int32) (may : Int32), (y = nI j) → (j ≤ 31) → (32 ≤ j + n) → (mMayN (mNow μ) (mPar μ) (mLag (mNow μ) (mPar μ)) n j may = mMay (mNow μ) (mPar μ) (mLag (mNow μ) (mPar μ))) → ∀ (H : Heap) (locs : List Loc) (ls : Array Slot), va_P (gD Γ) vwCl (modW Γ a b μ) H → va_D A (modW Γ a b μ) → va_S A s.heap H locs → lv_has ls 4 [(0, .ref (a b)), (1, .int (mLag (mNow μ) (mPar μ))), (2, .int may), (3, .int y)] → W p l e rm_X7_tuneDelay s m args below meth c H locs 0 0 Q (F0 m 17 ls []) := by
    intro n
    induction n with
    | zero =>
      intro j y may ey hj hn hg
      omega
    | succ n ih =>
      intro j y may ey hj hn hg H locs ls hP hD hS hl
      refine lv_iload_n hx hb dX7_tuneDelay_17 rfl (lv_at hl 3 rfl) ?_
      refine lv_bipush (v := 30) hx hb dX7_tuneDelay_18 (by decide) ?_
      refine lv_icmp_gt (tgt := 62) hx hb dX7_tuneDelay_20 (by decide) (fun c_20 => ?_) (fun c_20 => ?_)
      · -- yes
        have hm : mMay (mNow μ) (mPar μ) (mLag (mNow μ) (mPar μ)) = may := by rw [← hg, mMayN_s, ← ey]; first | rw [if_pos c_20] | rw [if_neg c_20, if_pos c_24]
        refine lv_iload_n hx hb dX7_tuneDelay_62 rfl (lv_at hl 2 rfl) ?_
        refine lv_if_ne (tgt := 69) hx hb dX7_tuneDelay_63 (by decide) (fun c_63 => ?_) (fun c_63 => ?_)
        · -- yes
          refine lv_aload_n hx hb dX7_tuneDelay_69 rfl (lv_at hl 0 rfl) ?_
          obtain ⟨u_70, eu_70⟩ : ∃ z : Nat → Int32, z = mKeepB (mBef μ) (mPar μ) (mUm μ) := ⟨_, rfl⟩
          obtain ⟨u_70b, eu_70b⟩ : ∃ z : Int32, z = mKpU (mUm μ) + 1 := ⟨_, rfl⟩
          have hM_70 : Cv Γ l yX7_keeps wsX7_keeps rm_X7_keeps [.ref (a b)] (modW Γ a b μ) (modW Γ a b ((mNow μ), (mAside μ), (mKept μ), (mKm μ), (mPar μ), (mParA μ), u_70, u_70b, (mLow μ), (mHigh μ), (mNames μ), (mLen μ), (mText μ), (mPath μ), (mIdeal μ), (mSpot μ), (mWhich μ), (mNum μ))) := by rw [eu_70, eu_70b]; exact c_X7_keeps Γ l a b μ hu
          refine ca_Vva hh hl.1 hM_70 (cwV 0 hts gX7_tuneDelay_X7_keeps rfl rfl rfl (by decide +kernel) ⟨(Nat.le_of_ble_eq_true rfl), (Nat.le_of_ble_eq_true rfl)⟩) (As := []) (rest := []) rfl dX7_tuneDelay_70 rfl (Nat.le_of_ble_eq_true rfl) hP hD hS (q0 := 0) (ci := 7) rfl rfl rfl (wf := modW Γ a b ((mNow μ), (mAside μ), (mKept μ), (mKm μ), (mPar μ), (mParA μ), u_70, u_70b, (mLow μ), (mHigh μ), (mNames μ), (mLen μ), (mText μ), (mPath μ), (mIdeal μ), (mSpot μ), (mWhich μ), (mNum μ))) rfl ⟨Nat.zero_le _, Nat.zero_le _⟩ (fun H locs hP hD hS => ?_)
          refine lv_aload_n hx hb dX7_tuneDelay_73 rfl (lv_at hl 0 rfl) ?_
          refine va_get (D := gD Γ) (cl := vwCl) (tys := gTy Γ) (ci := 7) (v := .ref (a (b + 4))) (C := RX7) (T := TX7) (N := 18) hx hb hts iX7_tuneDelay_7 hown hK hP 0 rfl rfl 4 (Nat.le_of_ble_eq_true rfl) (hts (.fieldLink RX7 19 "DeadTimeLoopModel" "par" "[I") (List.mem_of_getElem? (i := 3) rfl)) (fun _ h9 => h9) rfl dX7_tuneDelay_74 ?_
          refine lv_bipush (v := 7) hx hb dX7_tuneDelay_77 (by decide) ?_
          refine lv_bipush (v := 10) hx hb dX7_tuneDelay_79 (by decide) ?_
          refine lv_iload_n hx hb dX7_tuneDelay_81 rfl (lv_at hl 1 rfl) ?_
          refine lv_imul hx hb dX7_tuneDelay_82 ?_
          refine ka_iast (D := gD Γ) (cl := vwCl) (tys := gTy Γ) hx hb hK hP hD hS 4 0 rfl rfl 7 (by decide) (by decide) (by decide) (wf := modW Γ a b ((mNow μ), (mAside μ), (mKept μ), (mKm μ), (upd (mPar μ) 7 (10 * (mLag (mNow μ) (mPar μ)))), (mParA μ), u_70, u_70b, (mLow μ), (mHigh μ), (mNames μ), (mLen μ), (mText μ), (mPath μ), (mIdeal μ), (mSpot μ), (mWhich μ), (mNum μ))) rfl dX7_tuneDelay_83 (fun H locs hP hD hS => ?_)
          refine lv_aload_n hx hb dX7_tuneDelay_84 rfl (lv_at hl 0 rfl) ?_
          refine va_get (D := gD Γ) (cl := vwCl) (tys := gTy Γ) (ci := 7) (v := .ref (a (b + 4))) (C := RX7) (T := TX7) (N := 18) hx hb hts iX7_tuneDelay_7 hown hK hP 0 rfl rfl 4 (Nat.le_of_ble_eq_true rfl) (hts (.fieldLink RX7 19 "DeadTimeLoopModel" "par" "[I") (List.mem_of_getElem? (i := 3) rfl)) (fun _ h9 => h9) rfl dX7_tuneDelay_85 ?_
          refine lv_bipush (v := 7) hx hb dX7_tuneDelay_88 (by decide) ?_
          refine ka_iald (D := gD Γ) (cl := vwCl) (tys := gTy Γ) hx hb hK hP 4 0 rfl rfl 7 (by decide) (by decide) (by decide) (v := (10 * (mLag (mNow μ) (mPar μ)))) rfl dX7_tuneDelay_90 ?_
          exact re_i hQ ha hx hb hr hlk hAe hP hS dX7_tuneDelay_91 (by simp only [jTune, hm, c_20, c_63, if_true, if_false]) (by simp only [hTune, hm, mKeeps, mPut_par, mPut_before, mPut_undoMany, mPut_now, ← eu_70, ← eu_70b, c_20, c_63, if_true, if_false])
        · -- no
          refine lv_ldc hx hb hown (hts (.constant RX7 83 (-2000000002)) (List.mem_of_getElem? (i := 2) rfl)) dX7_tuneDelay_66 ?_
          exact re_i hQ ha hx hb hr hlk hAe hP hS dX7_tuneDelay_68 (by simp only [jTune, hm, c_20, c_63, if_true, if_false]) (by simp only [hTune, hm, mKeeps, mPut_par, mPut_before, mPut_undoMany, mPut_now, c_20, c_63, if_true, if_false])
      · -- no
        refine lv_iload_n hx hb dX7_tuneDelay_23 rfl (lv_at hl 2 rfl) ?_
        refine lv_if_eq (tgt := 62) hx hb dX7_tuneDelay_24 (by decide) (fun c_24 => ?_) (fun c_24 => ?_)
        · -- yes
          have hm : mMay (mNow μ) (mPar μ) (mLag (mNow μ) (mPar μ)) = may := by rw [← hg, mMayN_s, ← ey]; first | rw [if_pos c_20] | rw [if_neg c_20, if_pos c_24]
          refine lv_iload_n hx hb dX7_tuneDelay_62 rfl (lv_at hl 2 rfl) ?_
          refine lv_if_ne (tgt := 69) hx hb dX7_tuneDelay_63 (by decide) (fun c => absurd c_24 c) (fun _ => ?_)
          refine lv_ldc hx hb hown (hts (.constant RX7 83 (-2000000002)) (List.mem_of_getElem? (i := 2) rfl)) dX7_tuneDelay_66 ?_
          exact re_i hQ ha hx hb hr hlk hAe hP hS dX7_tuneDelay_68 (by simp only [jTune, hm, c_20, c_24, if_true, if_false]) (by simp only [hTune, hm, mKeeps, mPut_par, mPut_before, mPut_undoMany, mPut_now, c_20, c_24, if_true, if_false])
        · -- no
          refine lv_iload_n hx hb dX7_tuneDelay_27 rfl (lv_at hl 3 rfl) ?_
          refine lv_iload_n hx hb dX7_tuneDelay_28 rfl (lv_at hl 1 rfl) ?_
          refine lv_icmp_eq (tgt := 50) hx hb dX7_tuneDelay_29 (by decide) (fun c_29 => ?_) (fun c_29 => ?_)
          · -- yes
            refine lv_iconst (v := 1) hx hb dX7_tuneDelay_50 (by decide) ?_
            refine lv_goto (tgt := 55) hx hb dX7_tuneDelay_51 (by decide) ?_
            refine lv_istore_n (lv' := [(2, .int 1), (0, .ref (a b)), (1, .int (mLag (mNow μ) (mPar μ))), (3, .int y)]) hx hb dX7_tuneDelay_55 rfl hl (by decide) rfl (fun ls hl => ?_)
            refine lv_iinc (v := (y + 1)) (lv' := [(3, .int (y + 1)), (2, .int 1), (0, .ref (a b)), (1, .int (mLag (mNow μ) (mPar μ)))]) hx hb dX7_tuneDelay_56 hl (k := 3) rfl rfl (by decide) rfl (fun ls hl => ?_)
            refine lv_goto (tgt := 17) hx hb dX7_tuneDelay_59 (by decide) ?_
            exact ih (j + 1) _ _ (by rw [ey]; exact nI_1 j) (by rw [ey, show (30 : Int32) = nI 30 from rfl, nI_ltI (by decide) (by omega)] at c_20; omega) (by omega) (by subst ey; rw [← hg, mMayN_s, if_neg c_20, if_neg c_24]; first | rw [if_pos c_29] | (rw [if_neg c_29]; first | rw [if_pos c_47] | rw [if_neg c_47])) _ _ _ hP hD hS (lv_sub hl [2, 3, 1, 0] rfl)
          · -- no
            refine lv_aload_n hx hb dX7_tuneDelay_32 rfl (lv_at hl 0 rfl) ?_
            refine lv_iload_n hx hb dX7_tuneDelay_33 rfl (lv_at hl 1 rfl) ?_
            refine ca_Vla hh hl.1 (c_X7_correlationOf Γ l a b μ (mLag (mNow μ) (mPar μ)) N hN hN2) (cwV 1 hts gX7_tuneDelay_X7_correlationOf rfl rfl rfl (by decide +kernel) ⟨(Nat.le_of_ble_eq_true rfl), (Nat.le_of_ble_eq_true rfl)⟩) (As := [.int (mLag (mNow μ) (mPar μ))]) (rest := []) rfl dX7_tuneDelay_34 rfl (Nat.le_of_ble_eq_true rfl) hP hD hS (q0 := 0) (ci := 7) rfl rfl rfl (wf := modW Γ a b μ) rfl ⟨Nat.zero_le _, Nat.zero_le _⟩ (fun H locs hP hD hS => ?_)
            refine lv_ldc2 hx hb hown (hts (.constantLong RX7 150 (2)) (List.mem_of_getElem? (i := 1) rfl)) dX7_tuneDelay_37 ?_
            refine lv_aload_n hx hb dX7_tuneDelay_40 rfl (lv_at hl 0 rfl) ?_
            refine lv_iload_n hx hb dX7_tuneDelay_41 rfl (lv_at hl 3 rfl) ?_
            refine ca_Vla hh hl.1 (c_X7_correlationOf Γ l a b μ y N hN hN2) (cwV 1 hts gX7_tuneDelay_X7_correlationOf rfl rfl rfl (by decide +kernel) ⟨(Nat.le_of_ble_eq_true rfl), (Nat.le_of_ble_eq_true rfl)⟩) (As := [.int y]) (rest := [.long 2, .long (mCor (mNow μ) (mPar μ) (mLag (mNow μ) (mPar μ)))]) rfl dX7_tuneDelay_42 rfl (Nat.le_of_ble_eq_true rfl) hP hD hS (q0 := 0) (ci := 7) rfl rfl rfl (wf := modW Γ a b μ) rfl ⟨Nat.zero_le _, Nat.zero_le _⟩ (fun H locs hP hD hS => ?_)
            refine lv_lmul hx hb dX7_tuneDelay_45 ?_
            refine W.lcmp hx hb dX7_tuneDelay_46 ?_
            refine lv_if_lt (tgt := 54) hx hb dX7_tuneDelay_47 (by decide) (fun c_47 => ?_) (fun c_47 => ?_)
            · -- yes
              have c_47 := (lg_cmp_lt _ _).mp c_47
              refine lv_iconst (v := 0) hx hb dX7_tuneDelay_54 (by decide) ?_
              refine lv_istore_n (lv' := [(2, .int 0), (0, .ref (a b)), (1, .int (mLag (mNow μ) (mPar μ))), (3, .int y)]) hx hb dX7_tuneDelay_55 rfl hl (by decide) rfl (fun ls hl => ?_)
              refine lv_iinc (v := (y + 1)) (lv' := [(3, .int (y + 1)), (2, .int 0), (0, .ref (a b)), (1, .int (mLag (mNow μ) (mPar μ)))]) hx hb dX7_tuneDelay_56 hl (k := 3) rfl rfl (by decide) rfl (fun ls hl => ?_)
              refine lv_goto (tgt := 17) hx hb dX7_tuneDelay_59 (by decide) ?_
              exact ih (j + 1) _ _ (by rw [ey]; exact nI_1 j) (by rw [ey, show (30 : Int32) = nI 30 from rfl, nI_ltI (by decide) (by omega)] at c_20; omega) (by omega) (by subst ey; rw [← hg, mMayN_s, if_neg c_20, if_neg c_24]; first | rw [if_pos c_29] | (rw [if_neg c_29]; first | rw [if_pos c_47] | rw [if_neg c_47])) _ _ _ hP hD hS (lv_sub hl [2, 3, 1, 0] rfl)
            · -- no
              have c_47 := mt (lg_cmp_lt _ _).mpr c_47
              refine lv_iconst (v := 1) hx hb dX7_tuneDelay_50 (by decide) ?_
              refine lv_goto (tgt := 55) hx hb dX7_tuneDelay_51 (by decide) ?_
              refine lv_istore_n (lv' := [(2, .int 1), (0, .ref (a b)), (1, .int (mLag (mNow μ) (mPar μ))), (3, .int y)]) hx hb dX7_tuneDelay_55 rfl hl (by decide) rfl (fun ls hl => ?_)
              refine lv_iinc (v := (y + 1)) (lv' := [(3, .int (y + 1)), (2, .int 1), (0, .ref (a b)), (1, .int (mLag (mNow μ) (mPar μ)))]) hx hb dX7_tuneDelay_56 hl (k := 3) rfl rfl (by decide) rfl (fun ls hl => ?_)
              refine lv_goto (tgt := 17) hx hb dX7_tuneDelay_59 (by decide) ?_
              exact ih (j + 1) _ _ (by rw [ey]; exact nI_1 j) (by rw [ey, show (30 : Int32) = nI 30 from rfl, nI_ltI (by decide) (by omega)] at c_20; omega) (by omega) (by subst ey; rw [← hg, mMayN_s, if_neg c_20, if_neg c_24]; first | rw [if_pos c_29] | (rw [if_neg c_29]; first | rw [if_pos c_47] | rw [if_neg c_47])) _ _ _ hP hD hS (lv_sub hl [2, 3, 1, 0] rfl)
  refine lv_iload_n hx hb dX7_tuneDelay_5 rfl (lv_at hl 0 rfl) ?_
  refine lv_if_lt (tgt := 13) hx hb dX7_tuneDelay_6 (by decide) (fun c_6 => ?_) (fun c_6 => ?_)
  · -- yes
    refine lv_iconst (v := 0) hx hb dX7_tuneDelay_13 (by decide) ?_
    refine lv_istore_n (lv' := [(2, .int 0), (1, .int (mLag (mNow μ) (mPar μ))), (0, .ref (a b))]) hx hb dX7_tuneDelay_14 rfl hl (by decide) rfl (fun ls hl => ?_)
    refine lv_iconst (v := 0) hx hb dX7_tuneDelay_15 (by decide) ?_
    refine lv_istore_n (lv' := [(3, .int 0), (2, .int 0), (1, .int (mLag (mNow μ) (mPar μ))), (0, .ref (a b))]) hx hb dX7_tuneDelay_16 rfl hl (by decide) rfl (fun ls hl => ?_)
    exact hJ_17 32 0 0 _ rfl (by omega) (by omega) (by simp only [mMay, c_6, if_true, if_false]) _ _ _ hP hD hS (lv_sub hl [3, 2, 1, 0] rfl)
  · -- no
    refine lv_iconst (v := 1) hx hb dX7_tuneDelay_9 (by decide) ?_
    refine lv_goto (tgt := 14) hx hb dX7_tuneDelay_10 (by decide) ?_
    refine lv_istore_n (lv' := [(2, .int 1), (1, .int (mLag (mNow μ) (mPar μ))), (0, .ref (a b))]) hx hb dX7_tuneDelay_14 rfl hl (by decide) rfl (fun ls hl => ?_)
    refine lv_iconst (v := 0) hx hb dX7_tuneDelay_15 (by decide) ?_
    refine lv_istore_n (lv' := [(3, .int 0), (2, .int 1), (1, .int (mLag (mNow μ) (mPar μ))), (0, .ref (a b))]) hx hb dX7_tuneDelay_16 rfl hl (by decide) rfl (fun ls hl => ?_)
    exact hJ_17 32 0 0 _ rfl (by omega) (by omega) (by simp only [mMay, c_6, if_true, if_false]) _ _ _ hP hD hS (lv_sub hl [3, 2, 1, 0] rfl)
