def rm_X7_idealDifference : Room := { frames := 3, cells := 0, slots := 0, locals := 85 }
theorem iX7_idealDifference_7 : ∀ w ∈ u_ws RX7 TX7 18, w ∈ wsX7_idealDifference := fun w h => (List.mem_cons_of_mem _ (List.mem_append_right _ h))
set_option maxHeartbeats 8000000 in
set_option maxRecDepth 100000 in
theorem c_X7_idealDifference (Γ : gT) (l : Launch) (a : Nat → Nat) (b : Nat) (μ : Mst) (t : Int32) (J : Nat) (hok : mOk (mNow μ)) (hJ : mPar μ 4 / 10 = nI J) (hJ2 : J ≤ 30) : Ci Γ l yX7_idealDifference wsX7_idealDifference rm_X7_idealDifference [.ref (a b), .int t] (modW Γ a b μ) (jIdeal μ t) (modW Γ a b (hIdeal μ t)) := by
  refine Ci.of (cc := cX7_idealDifference) (own := RX7) (nL := 10) (ret := (some .int)) (by decide +kernel) rfl rfl (Nat.le_of_ble_eq_true rfl) ?_
  intro p e s m args below meth c A Q H locs ls ha hAe hQ hx hb hml hr hts hown hlk hP hK hD hS hA hG hl
  have hh : Hd Γ p s m args c cX7_idealDifference RX7 10 wsX7_idealDifference A := ⟨⟨hx, hb, hml, hown, hts⟩, hK, hA, hG⟩
  have hl : lv_has ls 10 [(0, .ref (a b)), (1, .int t)] := hl
  refine lv_iload_n hx hb dX7_idealDifference_0 rfl (lv_at hl 1 rfl) ?_
  refine lv_i2l (v := t.toInt64) hx hb dX7_idealDifference_1 rfl ?_
  refine lv_lconst (v := 1) hx hb dX7_idealDifference_2 (by decide) ?_
  refine lv_ldc2 hx hb hown (hts (.constantLong RX7 240 (200)) (List.mem_of_getElem? (i := 1) rfl)) dX7_idealDifference_3 ?_
  refine ca_Si hh hl.1 (c_X7_in Γ l (t.toInt64) 1 200) (va_cwS 3 hts gX7_idealDifference_X7_in rfl rfl rfl (by decide +kernel) ⟨(Nat.le_of_ble_eq_true rfl), (Nat.le_of_ble_eq_true rfl)⟩) (As := [.long (t.toInt64), .long 1, .long 200]) (rest := []) rfl dX7_idealDifference_6 rfl (Nat.le_of_ble_eq_true rfl) hP hD hS ⟨Nat.zero_le _, Nat.zero_le _⟩ (fun H locs hP hS => ?_)
  refine lv_if_ne (tgt := 15) hx hb dX7_idealDifference_9 (by decide) (fun c_9 => ?_) (fun c_9 => ?_)
  · -- yes
    have hT := rng_of 1 200 (by decide) (by decide) c_9
    have ecl : mIdJ μ = J := by rw [mIdJ, hJ]; exact nI_clamp (by omega)
    refine lv_aload_n hx hb dX7_idealDifference_15 rfl (lv_at hl 0 rfl) ?_
    obtain ⟨u_16, eu_16⟩ : ∃ z : Nat → Int64, z = mCpL (mAside μ) (mNow μ) 681 := ⟨_, rfl⟩
    obtain ⟨u_16b, eu_16b⟩ : ∃ z : Nat → Int32, z = mCpI (mParA μ) (mPar μ) 15 := ⟨_, rfl⟩
    have hM_16 : Cv Γ l yX7_putsAside wsX7_putsAside rm_X7_putsAside [.ref (a b)] (modW Γ a b μ) (modW Γ a b ((mNow μ), u_16, (mKept μ), (mKm μ), (mPar μ), u_16b, (mBef μ), (mUm μ), (mLow μ), (mHigh μ), (mNames μ), (mLen μ), (mText μ), (mPath μ), (mIdeal μ), (mSpot μ), (mWhich μ), (mNum μ))) := by rw [eu_16, eu_16b]; exact c_X7_putsAside Γ l a b μ
    refine ca_Vva hh hl.1 hM_16 (cwV 0 hts gX7_idealDifference_X7_putsAside rfl rfl rfl (by decide +kernel) ⟨(Nat.le_of_ble_eq_true rfl), (Nat.le_of_ble_eq_true rfl)⟩) (As := []) (rest := []) rfl dX7_idealDifference_16 rfl (Nat.le_of_ble_eq_true rfl) hP hD hS (q0 := 0) (ci := 7) rfl rfl rfl (wf := modW Γ a b ((mNow μ), u_16, (mKept μ), (mKm μ), (mPar μ), u_16b, (mBef μ), (mUm μ), (mLow μ), (mHigh μ), (mNames μ), (mLen μ), (mText μ), (mPath μ), (mIdeal μ), (mSpot μ), (mWhich μ), (mNum μ))) rfl ⟨Nat.zero_le _, Nat.zero_le _⟩ (fun H locs hP hD hS => ?_)
    refine lv_aload_n hx hb dX7_idealDifference_19 rfl (lv_at hl 0 rfl) ?_
    refine va_get (D := gD Γ) (cl := vwCl) (tys := gTy Γ) (ci := 7) (v := .ref (a (b + 4))) (C := RX7) (T := TX7) (N := 18) hx hb hts iX7_idealDifference_7 hown hK hP 0 rfl rfl 4 (Nat.le_of_ble_eq_true rfl) (hts (.fieldLink RX7 19 "DeadTimeLoopModel" "par" "[I") (List.mem_of_getElem? (i := 3) rfl)) (fun _ h9 => h9) rfl dX7_idealDifference_20 ?_
    refine lv_iconst (v := 4) hx hb dX7_idealDifference_23 (by decide) ?_
    refine ka_iald (D := gD Γ) (cl := vwCl) (tys := gTy Γ) hx hb hK hP 4 0 rfl rfl 4 (by decide) (by decide) (by decide) (v := ((mPar μ) 4)) rfl dX7_idealDifference_24 ?_
    refine lv_bipush (v := 10) hx hb dX7_idealDifference_25 (by decide) ?_
    refine lv_idiv hx hb dX7_idealDifference_27 (by decide) ?_
    refine lv_istore_n (lv' := [(2, .int (((mPar μ) 4) / 10)), (0, .ref (a b)), (1, .int t)]) hx hb dX7_idealDifference_28 rfl hl (by decide) rfl (fun ls hl => ?_)
    refine lv_aload_n hx hb dX7_idealDifference_29 rfl (lv_at hl 1 rfl) ?_
    refine va_get (D := gD Γ) (cl := vwCl) (tys := gTy Γ) (ci := 7) (v := .ref (a (b + 1))) (C := RX7) (T := TX7) (N := 18) hx hb hts iX7_idealDifference_7 hown hK hP 0 rfl rfl 0 (Nat.le_of_ble_eq_true rfl) (hts (.fieldLink RX7 7 "DeadTimeLoopModel" "now" "[J") (List.mem_of_getElem? (i := 4) rfl)) (fun _ h9 => h9) rfl dX7_idealDifference_30 ?_
    refine lv_sipush (v := 641) hx hb dX7_idealDifference_33 (by decide) ?_
    refine ka_lald (D := gD Γ) (cl := vwCl) (tys := gTy Γ) hx hb hK hP 1 1 rfl rfl 641 (by decide) (by decide) (by decide) (v := ((mNow μ) 641)) rfl dX7_idealDifference_36 ?_
    refine lv_lstore_n (lv' := [(3, .long ((mNow μ) 641)), (2, .int (((mPar μ) 4) / 10)), (0, .ref (a b)), (1, .int t)]) hx hb dX7_idealDifference_37 rfl hl (by decide) rfl (fun ls hl => ?_)
    refine lv_aload_n hx hb dX7_idealDifference_38 rfl (lv_at hl 2 rfl) ?_
    refine va_get (D := gD Γ) (cl := vwCl) (tys := gTy Γ) (ci := 7) (v := .ref (a (b + 4))) (C := RX7) (T := TX7) (N := 18) hx hb hts iX7_idealDifference_7 hown hK hP 0 rfl rfl 4 (Nat.le_of_ble_eq_true rfl) (hts (.fieldLink RX7 19 "DeadTimeLoopModel" "par" "[I") (List.mem_of_getElem? (i := 3) rfl)) (fun _ h9 => h9) rfl dX7_idealDifference_39 ?_
    refine lv_bipush (v := 14) hx hb dX7_idealDifference_42 (by decide) ?_
    refine lv_iconst (v := 0) hx hb dX7_idealDifference_44 (by decide) ?_
    refine ka_iast (D := gD Γ) (cl := vwCl) (tys := gTy Γ) hx hb hK hP hD hS 4 0 rfl rfl 14 (by decide) (by decide) (by decide) (wf := modW Γ a b ((mNow μ), u_16, (mKept μ), (mKm μ), (upd (mPar μ) 14 0), u_16b, (mBef μ), (mUm μ), (mLow μ), (mHigh μ), (mNames μ), (mLen μ), (mText μ), (mPath μ), (mIdeal μ), (mSpot μ), (mWhich μ), (mNum μ))) (modW_set_par Γ a b _ _) dX7_idealDifference_45 (fun H locs hP hD hS => ?_)
    refine lv_aload_n hx hb dX7_idealDifference_46 rfl (lv_at hl 2 rfl) ?_
    obtain ⟨u_47, eu_47⟩ : ∃ z : Nat → Int64, z = mZeroN (mNow μ) 681 := ⟨_, rfl⟩
    have hM_47 : Cv Γ l yX7_clears wsX7_clears rm_X7_clears [.ref (a b)] (modW Γ a b ((mNow μ), u_16, (mKept μ), (mKm μ), (upd (mPar μ) 14 0), u_16b, (mBef μ), (mUm μ), (mLow μ), (mHigh μ), (mNames μ), (mLen μ), (mText μ), (mPath μ), (mIdeal μ), (mSpot μ), (mWhich μ), (mNum μ))) (modW Γ a b (u_47, u_16, (mKept μ), (mKm μ), (upd (mPar μ) 14 0), u_16b, (mBef μ), (mUm μ), (mLow μ), (mHigh μ), (mNames μ), (mLen μ), (mText μ), (mPath μ), (mIdeal μ), (mSpot μ), (mWhich μ), (mNum μ))) := by rw [eu_47]; exact c_X7_clears Γ l a b ((mNow μ), u_16, (mKept μ), (mKm μ), (upd (mPar μ) 14 0), u_16b, (mBef μ), (mUm μ), (mLow μ), (mHigh μ), (mNames μ), (mLen μ), (mText μ), (mPath μ), (mIdeal μ), (mSpot μ), (mWhich μ), (mNum μ))
    refine ca_Vva hh hl.1 hM_47 (cwV 0 hts gX7_idealDifference_X7_clears rfl rfl rfl (by decide +kernel) ⟨(Nat.le_of_ble_eq_true rfl), (Nat.le_of_ble_eq_true rfl)⟩) (As := []) (rest := []) rfl dX7_idealDifference_47 rfl (Nat.le_of_ble_eq_true rfl) hP hD hS (q0 := 0) (ci := 7) rfl rfl rfl (wf := modW Γ a b (u_47, u_16, (mKept μ), (mKm μ), (upd (mPar μ) 14 0), u_16b, (mBef μ), (mUm μ), (mLow μ), (mHigh μ), (mNames μ), (mLen μ), (mText μ), (mPath μ), (mIdeal μ), (mSpot μ), (mWhich μ), (mNum μ))) rfl ⟨Nat.zero_le _, Nat.zero_le _⟩ (fun H locs hP hD hS => ?_)
    refine lv_aload_n hx hb dX7_idealDifference_50 rfl (lv_at hl 2 rfl) ?_
    refine va_get (D := gD Γ) (cl := vwCl) (tys := gTy Γ) (ci := 7) (v := .ref (a (b + 1))) (C := RX7) (T := TX7) (N := 18) hx hb hts iX7_idealDifference_7 hown hK hP 0 rfl rfl 0 (Nat.le_of_ble_eq_true rfl) (hts (.fieldLink RX7 7 "DeadTimeLoopModel" "now" "[J") (List.mem_of_getElem? (i := 4) rfl)) (fun _ h9 => h9) rfl dX7_idealDifference_51 ?_
    refine lv_sipush (v := 641) hx hb dX7_idealDifference_54 (by decide) ?_
    refine lv_lload_n hx hb dX7_idealDifference_57 rfl (lv_at hl 0 rfl) ?_
    refine ka_last (D := gD Γ) (cl := vwCl) (tys := gTy Γ) hx hb hK hP hD hS 1 1 rfl rfl 641 (by decide) (by decide) (by decide) (wf := modW Γ a b ((vp_updL u_47 641 ((mNow μ) 641)), u_16, (mKept μ), (mKm μ), (upd (mPar μ) 14 0), u_16b, (mBef μ), (mUm μ), (mLow μ), (mHigh μ), (mNames μ), (mLen μ), (mText μ), (mPath μ), (mIdeal μ), (mSpot μ), (mWhich μ), (mNum μ))) (modW_set_now Γ a b _ _) dX7_idealDifference_58 (fun H locs hP hD hS => ?_)
    refine lv_iconst (v := 0) hx hb dX7_idealDifference_59 (by decide) ?_
    refine lv_istore (lv' := [(5, .int 0), (3, .long ((mNow μ) 641)), (2, .int (((mPar μ) 4) / 10)), (0, .ref (a b)), (1, .int t)]) hx hb dX7_idealDifference_60 hl (by decide) rfl (fun ls hl => ?_)
    have hJ_62 : ∀ n : Nat, ∀ (i : Nat) (y : Int32) (P1 : Nat → Int64) (n1 : Nat → Int64), (y = nI i) → (i ≤ t.toNatClampNeg + J + 1) → (t.toNatClampNeg + J + 2 ≤ i + n) → (n1 640 = lN i) → (mOk n1) → (mPathN (upd (mPar μ) 14 0) (mIdeal μ) (t.toNatClampNeg + J + 1 - i) i P1 n1 = mIdP μ t.toNatClampNeg) → ∀ (H : Heap) (locs : List Loc) (ls : Array Slot), va_P (gD Γ) vwCl (modW Γ a b (n1, u_16, (mKept μ), (mKm μ), (upd (mPar μ) 14 0), u_16b, (mBef μ), (mUm μ), (mLow μ), (mHigh μ), (mNames μ), (mLen μ), (mText μ), P1, (mIdeal μ), (mSpot μ), (mWhich μ), (mNum μ))) H → va_D A (modW Γ a b (n1, u_16, (mKept μ), (mKm μ), (upd (mPar μ) 14 0), u_16b, (mBef μ), (mUm μ), (mLow μ), (mHigh μ), (mNames μ), (mLen μ), (mText μ), P1, (mIdeal μ), (mSpot μ), (mWhich μ), (mNum μ))) → va_S A s.heap H locs → lv_has ls 10 [(0, .ref (a b)), (1, .int t), (2, .int (((mPar μ) 4) / 10)), (3, .long ((mNow μ) 641)), (5, .int y)] → W p l e rm_X7_idealDifference s m args below meth c H locs 0 0 Q (F0 m 62 ls []) := by
      intro n
      induction n with
      | zero =>
        intro i y P1 n1 ey hi hn hs hok1 hg
        omega
      | succ n ih =>
        intro i y P1 n1 ey hi hn hs hok1 hg H locs ls hP hD hS hl
        refine lv_iload hx hb dX7_idealDifference_62 (lv_at hl 4 rfl) ?_
        refine lv_iload_n hx hb dX7_idealDifference_64 rfl (lv_at hl 1 rfl) ?_
        refine lv_iload_n hx hb dX7_idealDifference_65 rfl (lv_at hl 2 rfl) ?_
        refine lv_iadd hx hb dX7_idealDifference_66 ?_
        refine lv_icmp_gt (tgt := 95) hx hb dX7_idealDifference_67 (by decide) (fun c_67 => ?_) (fun c_67 => ?_)
        · -- yes
          have hiT : i = t.toNatClampNeg + J + 1 := (by have q0 := c_67; rw [hT.1, hJ, ey, nI_add, nI_ltI (by omega) (by omega)] at q0; omega)
          have hp : mIdP μ t.toNatClampNeg = (P1, n1) := by rw [← hg, hiT, Nat.sub_self]; rfl
          refine lv_aload_n hx hb dX7_idealDifference_95 rfl (lv_at hl 0 rfl) ?_
          obtain ⟨u_96, eu_96⟩ : ∃ z : Nat → Int64, z = mZeroN n1 681 := ⟨_, rfl⟩
          have hM_96 : Cv Γ l yX7_clears wsX7_clears rm_X7_clears [.ref (a b)] (modW Γ a b (n1, u_16, (mKept μ), (mKm μ), (upd (mPar μ) 14 0), u_16b, (mBef μ), (mUm μ), (mLow μ), (mHigh μ), (mNames μ), (mLen μ), (mText μ), P1, (mIdeal μ), (mSpot μ), (mWhich μ), (mNum μ))) (modW Γ a b (u_96, u_16, (mKept μ), (mKm μ), (upd (mPar μ) 14 0), u_16b, (mBef μ), (mUm μ), (mLow μ), (mHigh μ), (mNames μ), (mLen μ), (mText μ), P1, (mIdeal μ), (mSpot μ), (mWhich μ), (mNum μ))) := by rw [eu_96]; exact c_X7_clears Γ l a b (n1, u_16, (mKept μ), (mKm μ), (upd (mPar μ) 14 0), u_16b, (mBef μ), (mUm μ), (mLow μ), (mHigh μ), (mNames μ), (mLen μ), (mText μ), P1, (mIdeal μ), (mSpot μ), (mWhich μ), (mNum μ))
          refine ca_Vva hh hl.1 hM_96 (cwV 0 hts gX7_idealDifference_X7_clears rfl rfl rfl (by decide +kernel) ⟨(Nat.le_of_ble_eq_true rfl), (Nat.le_of_ble_eq_true rfl)⟩) (As := []) (rest := []) rfl dX7_idealDifference_96 rfl (Nat.le_of_ble_eq_true rfl) hP hD hS (q0 := 0) (ci := 7) rfl rfl rfl (wf := modW Γ a b (u_96, u_16, (mKept μ), (mKm μ), (upd (mPar μ) 14 0), u_16b, (mBef μ), (mUm μ), (mLow μ), (mHigh μ), (mNames μ), (mLen μ), (mText μ), P1, (mIdeal μ), (mSpot μ), (mWhich μ), (mNum μ))) rfl ⟨Nat.zero_le _, Nat.zero_le _⟩ (fun H locs hP hD hS => ?_)
          refine lv_aload_n hx hb dX7_idealDifference_99 rfl (lv_at hl 0 rfl) ?_
          refine va_get (D := gD Γ) (cl := vwCl) (tys := gTy Γ) (ci := 7) (v := .ref (a (b + 1))) (C := RX7) (T := TX7) (N := 18) hx hb hts iX7_idealDifference_7 hown hK hP 0 rfl rfl 0 (Nat.le_of_ble_eq_true rfl) (hts (.fieldLink RX7 7 "DeadTimeLoopModel" "now" "[J") (List.mem_of_getElem? (i := 4) rfl)) (fun _ h9 => h9) rfl dX7_idealDifference_100 ?_
          refine lv_sipush (v := 641) hx hb dX7_idealDifference_103 (by decide) ?_
          refine lv_lload_n hx hb dX7_idealDifference_106 rfl (lv_at hl 3 rfl) ?_
          refine ka_last (D := gD Γ) (cl := vwCl) (tys := gTy Γ) hx hb hK hP hD hS 1 1 rfl rfl 641 (by decide) (by decide) (by decide) (wf := modW Γ a b ((vp_updL u_96 641 ((mNow μ) 641)), u_16, (mKept μ), (mKm μ), (upd (mPar μ) 14 0), u_16b, (mBef μ), (mUm μ), (mLow μ), (mHigh μ), (mNames μ), (mLen μ), (mText μ), P1, (mIdeal μ), (mSpot μ), (mWhich μ), (mNum μ))) (modW_set_now Γ a b _ _) dX7_idealDifference_107 (fun H locs hP hD hS => ?_)
          refine lv_aload_n hx hb dX7_idealDifference_108 rfl (lv_at hl 0 rfl) ?_
          refine lv_iconst (v := 1) hx hb dX7_idealDifference_109 (by decide) ?_
          refine va_put (D := gD Γ) (cl := vwCl) (tys := gTy Γ) (ci := 7) (v := .int 1) (ty := tyX7 14) (C := RX7) (T := TX7) (N := 18) hx hb hts iX7_idealDifference_7 tyX7 tyX7_ok nmX7 hown hK hP hD hS 0 rfl rfl 14 (Nat.le_of_ble_eq_true rfl) (hts (.fieldLink RX7 156 "DeadTimeLoopModel" "isIdeal" "Z") (List.mem_of_getElem? (i := 6) rfl)) (fun _ h9 => h9) rfl (tyX7_ok 14 (Nat.le_of_ble_eq_true rfl)) rfl rfl (Nat.le_of_ble_eq_true rfl) dX7_idealDifference_110 (fun H locs hP hD hS => ?_)
          have hP : va_P (gD Γ) vwCl (modW Γ a b ((vp_updL u_96 641 ((mNow μ) 641)), u_16, (mKept μ), (mKm μ), (upd (mPar μ) 14 0), u_16b, (mBef μ), (mUm μ), (mLow μ), (mHigh μ), (mNames μ), (mLen μ), (mText μ), P1, 1, (mSpot μ), (mWhich μ), (mNum μ))) H := (congrArg (fun w => va_P (gD Γ) vwCl w H) (modW_put_isIdeal Γ a b ((vp_updL u_96 641 ((mNow μ) 641)), u_16, (mKept μ), (mKm μ), (upd (mPar μ) 14 0), u_16b, (mBef μ), (mUm μ), (mLow μ), (mHigh μ), (mNames μ), (mLen μ), (mText μ), P1, (mIdeal μ), (mSpot μ), (mWhich μ), (mNum μ)) 1)).mp hP
          have hD : va_D A (modW Γ a b ((vp_updL u_96 641 ((mNow μ) 641)), u_16, (mKept μ), (mKm μ), (upd (mPar μ) 14 0), u_16b, (mBef μ), (mUm μ), (mLow μ), (mHigh μ), (mNames μ), (mLen μ), (mText μ), P1, 1, (mSpot μ), (mWhich μ), (mNum μ))) := (congrArg (fun w => va_D A w) (modW_put_isIdeal Γ a b ((vp_updL u_96 641 ((mNow μ) 641)), u_16, (mKept μ), (mKm μ), (upd (mPar μ) 14 0), u_16b, (mBef μ), (mUm μ), (mLow μ), (mHigh μ), (mNames μ), (mLen μ), (mText μ), P1, (mIdeal μ), (mSpot μ), (mWhich μ), (mNum μ)) 1)).mp hD
          refine lv_lconst (v := 0) hx hb dX7_idealDifference_113 (by decide) ?_
          refine lv_lstore (lv' := [(5, .long 0), (0, .ref (a b)), (1, .int t), (2, .int (((mPar μ) 4) / 10)), (3, .long ((mNow μ) 641))]) hx hb dX7_idealDifference_114 hl (by decide) rfl (fun ls hl => ?_)
          refine lv_iconst (v := 0) hx hb dX7_idealDifference_116 (by decide) ?_
          refine lv_istore (lv' := [(7, .int 0), (5, .long 0), (0, .ref (a b)), (1, .int t), (2, .int (((mPar μ) 4) / 10)), (3, .long ((mNow μ) 641))]) hx hb dX7_idealDifference_117 hl (by decide) rfl (fun ls hl => ?_)
          have hJ_119 : ∀ n : Nat, ∀ (k : Nat) (z : Int32) (most : Int64) (n2 : Nat → Int64), (z = nI k) → (k ≤ t.toNatClampNeg + 1) → (t.toNatClampNeg + 2 ≤ k + n) → (n2 640 = lN k) → (mOk n2) → (mFarN (upd (mPar μ) 14 0) P1 J (t.toNatClampNeg + 1 - k) k most n2 = mIdF μ t.toNatClampNeg) → ∀ (H : Heap) (locs : List Loc) (ls : Array Slot), va_P (gD Γ) vwCl (modW Γ a b (n2, u_16, (mKept μ), (mKm μ), (upd (mPar μ) 14 0), u_16b, (mBef μ), (mUm μ), (mLow μ), (mHigh μ), (mNames μ), (mLen μ), (mText μ), P1, 1, (mSpot μ), (mWhich μ), (mNum μ))) H → va_D A (modW Γ a b (n2, u_16, (mKept μ), (mKm μ), (upd (mPar μ) 14 0), u_16b, (mBef μ), (mUm μ), (mLow μ), (mHigh μ), (mNames μ), (mLen μ), (mText μ), P1, 1, (mSpot μ), (mWhich μ), (mNum μ))) → va_S A s.heap H locs → lv_has ls 10 [(0, .ref (a b)), (1, .int t), (2, .int (((mPar μ) 4) / 10)), (5, .long most), (7, .int z)] → W p l e rm_X7_idealDifference s m args below meth c H locs 0 0 Q (F0 m 119 ls []) := by
            intro n
            induction n with
            | zero =>
              intro k z most n2 ek hk hn2 hs2 hok2 hg2
              omega
            | succ n ih =>
              intro k z most n2 ek hk hn2 hs2 hok2 hg2 H locs ls hP hD hS hl
              refine lv_iload hx hb dX7_idealDifference_119 (lv_at hl 4 rfl) ?_
              refine lv_iload_n hx hb dX7_idealDifference_121 rfl (lv_at hl 1 rfl) ?_
              refine lv_icmp_gt (tgt := 175) hx hb dX7_idealDifference_122 (by decide) (fun c_122 => ?_) (fun c_122 => ?_)
              · -- yes
                have hkT : k = t.toNatClampNeg + 1 := (by have q0 := c_122; rw [hT.1, ek, nI_ltI (by omega) (by omega)] at q0; omega)
                have hf : mIdF μ t.toNatClampNeg = (most, n2) := by rw [← hg2, hkT, Nat.sub_self]; rfl
                refine lv_aload_n hx hb dX7_idealDifference_175 rfl (lv_at hl 0 rfl) ?_
                refine lv_iconst (v := 0) hx hb dX7_idealDifference_176 (by decide) ?_
                refine va_put (D := gD Γ) (cl := vwCl) (tys := gTy Γ) (ci := 7) (v := .int 0) (ty := tyX7 14) (C := RX7) (T := TX7) (N := 18) hx hb hts iX7_idealDifference_7 tyX7 tyX7_ok nmX7 hown hK hP hD hS 0 rfl rfl 14 (Nat.le_of_ble_eq_true rfl) (hts (.fieldLink RX7 156 "DeadTimeLoopModel" "isIdeal" "Z") (List.mem_of_getElem? (i := 6) rfl)) (fun _ h9 => h9) rfl (tyX7_ok 14 (Nat.le_of_ble_eq_true rfl)) rfl rfl (Nat.le_of_ble_eq_true rfl) dX7_idealDifference_177 (fun H locs hP hD hS => ?_)
                have hP : va_P (gD Γ) vwCl (modW Γ a b (n2, u_16, (mKept μ), (mKm μ), (upd (mPar μ) 14 0), u_16b, (mBef μ), (mUm μ), (mLow μ), (mHigh μ), (mNames μ), (mLen μ), (mText μ), P1, 0, (mSpot μ), (mWhich μ), (mNum μ))) H := (congrArg (fun w => va_P (gD Γ) vwCl w H) (modW_put_isIdeal Γ a b (n2, u_16, (mKept μ), (mKm μ), (upd (mPar μ) 14 0), u_16b, (mBef μ), (mUm μ), (mLow μ), (mHigh μ), (mNames μ), (mLen μ), (mText μ), P1, 1, (mSpot μ), (mWhich μ), (mNum μ)) 0)).mp hP
                have hD : va_D A (modW Γ a b (n2, u_16, (mKept μ), (mKm μ), (upd (mPar μ) 14 0), u_16b, (mBef μ), (mUm μ), (mLow μ), (mHigh μ), (mNames μ), (mLen μ), (mText μ), P1, 0, (mSpot μ), (mWhich μ), (mNum μ))) := (congrArg (fun w => va_D A w) (modW_put_isIdeal Γ a b (n2, u_16, (mKept μ), (mKm μ), (upd (mPar μ) 14 0), u_16b, (mBef μ), (mUm μ), (mLow μ), (mHigh μ), (mNames μ), (mLen μ), (mText μ), P1, 1, (mSpot μ), (mWhich μ), (mNum μ)) 0)).mp hD
                refine lv_aload_n hx hb dX7_idealDifference_180 rfl (lv_at hl 0 rfl) ?_
                obtain ⟨u_181, eu_181⟩ : ∃ z : Nat → Int64, z = mCpL n2 u_16 681 := ⟨_, rfl⟩
                obtain ⟨u_181b, eu_181b⟩ : ∃ z : Nat → Int32, z = mCpI (upd (mPar μ) 14 0) u_16b 15 := ⟨_, rfl⟩
                have hM_181 : Cv Γ l yX7_putsBack wsX7_putsBack rm_X7_putsBack [.ref (a b)] (modW Γ a b (n2, u_16, (mKept μ), (mKm μ), (upd (mPar μ) 14 0), u_16b, (mBef μ), (mUm μ), (mLow μ), (mHigh μ), (mNames μ), (mLen μ), (mText μ), P1, 0, (mSpot μ), (mWhich μ), (mNum μ))) (modW Γ a b (u_181, u_16, (mKept μ), (mKm μ), u_181b, u_16b, (mBef μ), (mUm μ), (mLow μ), (mHigh μ), (mNames μ), (mLen μ), (mText μ), P1, 0, (mSpot μ), (mWhich μ), (mNum μ))) := by rw [eu_181, eu_181b]; exact c_X7_putsBack Γ l a b (n2, u_16, (mKept μ), (mKm μ), (upd (mPar μ) 14 0), u_16b, (mBef μ), (mUm μ), (mLow μ), (mHigh μ), (mNames μ), (mLen μ), (mText μ), P1, 0, (mSpot μ), (mWhich μ), (mNum μ))
                refine ca_Vva hh hl.1 hM_181 (cwV 0 hts gX7_idealDifference_X7_putsBack rfl rfl rfl (by decide +kernel) ⟨(Nat.le_of_ble_eq_true rfl), (Nat.le_of_ble_eq_true rfl)⟩) (As := []) (rest := []) rfl dX7_idealDifference_181 rfl (Nat.le_of_ble_eq_true rfl) hP hD hS (q0 := 0) (ci := 7) rfl rfl rfl (wf := modW Γ a b (u_181, u_16, (mKept μ), (mKm μ), u_181b, u_16b, (mBef μ), (mUm μ), (mLow μ), (mHigh μ), (mNames μ), (mLen μ), (mText μ), P1, 0, (mSpot μ), (mWhich μ), (mNum μ))) rfl ⟨Nat.zero_le _, Nat.zero_le _⟩ (fun H locs hP hD hS => ?_)
                refine lv_lload hx hb dX7_idealDifference_184 (lv_at hl 3 rfl) ?_
                refine lv_l2i (v := most.toInt32) hx hb dX7_idealDifference_186 rfl ?_
                exact re_i hQ ha hx hb hr hlk hAe hP hS dX7_idealDifference_187 (by simp only [jIdeal, hf, c_9, if_true, if_false]) (by simp only [hIdeal, hf, hp, mIdQ, mAsideL, mAsideP, hAside, mPut_par, mPut_aside, mPut_parAside, mPut_now, mPut_path, mPut_isIdeal, ← eu_16, ← eu_16b, ← eu_47, ← eu_96, ← eu_181, ← eu_181b, c_9, if_true, if_false])
              · -- no
                have hlt2 : k < t.toNatClampNeg + 1 := (by have q0 := c_122; rw [hT.1, ek, nI_ltI (by omega) (by omega)] at q0; omega)
                refine lv_aload_n hx hb dX7_idealDifference_125 rfl (lv_at hl 0 rfl) ?_
                refine va_get (D := gD Γ) (cl := vwCl) (tys := gTy Γ) (ci := 7) (v := .ref (a (b + 11))) (C := RX7) (T := TX7) (N := 18) hx hb hts iX7_idealDifference_7 hown hK hP 0 rfl rfl 13 (Nat.le_of_ble_eq_true rfl) (hts (.fieldLink RX7 41 "DeadTimeLoopModel" "path" "[J") (List.mem_of_getElem? (i := 5) rfl)) (fun _ h9 => h9) rfl dX7_idealDifference_126 ?_
                refine lv_iload hx hb dX7_idealDifference_129 (lv_at hl 4 rfl) ?_
                refine lv_iload_n hx hb dX7_idealDifference_131 rfl (lv_at hl 2 rfl) ?_
                refine lv_iadd hx hb dX7_idealDifference_132 ?_
                refine ka_lald (D := gD Γ) (cl := vwCl) (tys := gTy Γ) hx hb hK hP 11 1 rfl rfl (k + J) (by rw [ek, hJ]; exact nI_add k J) (by omega) (by decide) (v := (P1 (k + J))) rfl dX7_idealDifference_133 ?_
                refine lv_aload_n hx hb dX7_idealDifference_134 rfl (lv_at hl 0 rfl) ?_
                refine va_get (D := gD Γ) (cl := vwCl) (tys := gTy Γ) (ci := 7) (v := .ref (a (b + 1))) (C := RX7) (T := TX7) (N := 18) hx hb hts iX7_idealDifference_7 hown hK hP 0 rfl rfl 0 (Nat.le_of_ble_eq_true rfl) (hts (.fieldLink RX7 7 "DeadTimeLoopModel" "now" "[J") (List.mem_of_getElem? (i := 4) rfl)) (fun _ h9 => h9) rfl dX7_idealDifference_135 ?_
                refine lv_sipush (v := 644) hx hb dX7_idealDifference_138 (by decide) ?_
                refine ka_lald (D := gD Γ) (cl := vwCl) (tys := gTy Γ) hx hb hK hP 1 1 rfl rfl 644 (by decide) (by decide) (by decide) (v := (n2 644)) rfl dX7_idealDifference_141 ?_
                refine lv_lsub hx hb dX7_idealDifference_142 ?_
                refine ca_Sl hh hl.1 (c_X7_size Γ l ((P1 (k + J)) - (n2 644))) (va_cwS 1 hts gX7_idealDifference_X7_size rfl rfl rfl (by decide +kernel) ⟨(Nat.le_of_ble_eq_true rfl), (Nat.le_of_ble_eq_true rfl)⟩) (As := [.long ((P1 (k + J)) - (n2 644))]) (rest := []) rfl dX7_idealDifference_143 rfl (Nat.le_of_ble_eq_true rfl) hP hD hS ⟨Nat.zero_le _, Nat.zero_le _⟩ (fun H locs hP hS => ?_)
                refine lv_lstore (lv' := [(8, .long (mSize ((P1 (k + J)) - (n2 644)))), (0, .ref (a b)), (1, .int t), (2, .int (((mPar μ) 4) / 10)), (5, .long most), (7, .int z)]) hx hb dX7_idealDifference_146 hl (by decide) rfl (fun ls hl => ?_)
                refine lv_lload hx hb dX7_idealDifference_148 (lv_at hl 0 rfl) ?_
                refine lv_lload hx hb dX7_idealDifference_150 (lv_at hl 4 rfl) ?_
                refine W.lcmp hx hb dX7_idealDifference_152 ?_
                refine lv_if_le (tgt := 161) hx hb dX7_idealDifference_153 (by decide) (fun c_153 => ?_) (fun c_153 => ?_)
                · -- yes
                  have c_153 := (lg_cmp_le _ _).mp c_153
                  refine lv_lload hx hb dX7_idealDifference_161 (lv_at hl 4 rfl) ?_
                  refine lv_lstore (lv' := [(5, .long most), (8, .long (mSize ((P1 (k + J)) - (n2 644)))), (0, .ref (a b)), (1, .int t), (2, .int (((mPar μ) 4) / 10)), (7, .int z)]) hx hb dX7_idealDifference_163 hl (by decide) rfl (fun ls hl => ?_)
                  refine lv_aload_n hx hb dX7_idealDifference_165 rfl (lv_at hl 2 rfl) ?_
                  obtain ⟨u_166, eu_166⟩ : ∃ z : Nat → Int64, z = mTick n2 (upd (mPar μ) 14 0) 1 := ⟨_, rfl⟩
                  have hM_166 : Cv Γ l yX7_ticks wsX7_ticks rm_X7_ticks [.ref (a b)] (modW Γ a b (n2, u_16, (mKept μ), (mKm μ), (upd (mPar μ) 14 0), u_16b, (mBef μ), (mUm μ), (mLow μ), (mHigh μ), (mNames μ), (mLen μ), (mText μ), P1, 1, (mSpot μ), (mWhich μ), (mNum μ))) (modW Γ a b (u_166, u_16, (mKept μ), (mKm μ), (upd (mPar μ) 14 0), u_16b, (mBef μ), (mUm μ), (mLow μ), (mHigh μ), (mNames μ), (mLen μ), (mText μ), P1, 1, (mSpot μ), (mWhich μ), (mNum μ))) := by rw [eu_166]; exact c_X7_ticks Γ l a b (n2, u_16, (mKept μ), (mKm μ), (upd (mPar μ) 14 0), u_16b, (mBef μ), (mUm μ), (mLow μ), (mHigh μ), (mNames μ), (mLen μ), (mText μ), P1, 1, (mSpot μ), (mWhich μ), (mNum μ)) hok2
                  refine ca_Vva hh hl.1 hM_166 (cwV 0 hts gX7_idealDifference_X7_ticks rfl rfl rfl (by decide +kernel) ⟨(Nat.le_of_ble_eq_true rfl), (Nat.le_of_ble_eq_true rfl)⟩) (As := []) (rest := []) rfl dX7_idealDifference_166 rfl (Nat.le_of_ble_eq_true rfl) hP hD hS (q0 := 0) (ci := 7) rfl rfl rfl (wf := modW Γ a b (u_166, u_16, (mKept μ), (mKm μ), (upd (mPar μ) 14 0), u_16b, (mBef μ), (mUm μ), (mLow μ), (mHigh μ), (mNames μ), (mLen μ), (mText μ), P1, 1, (mSpot μ), (mWhich μ), (mNum μ))) rfl ⟨Nat.zero_le _, Nat.zero_le _⟩ (fun H locs hP hD hS => ?_)
                  refine lv_iinc (v := (z + 1)) (lv' := [(7, .int (z + 1)), (5, .long most), (8, .long (mSize ((P1 (k + J)) - (n2 644)))), (0, .ref (a b)), (1, .int t), (2, .int (((mPar μ) 4) / 10))]) hx hb dX7_idealDifference_169 hl (k := 5) rfl rfl (by decide) rfl (fun ls hl => ?_)
                  refine lv_goto (tgt := 119) hx hb dX7_idealDifference_172 (by decide) ?_
                  exact ih (k + 1) _ _ _ (by rw [ek]; exact nI_1 k) (by omega) (by omega) (by rw [eu_166]; exact (mOk_tick _ _ hok2 hs2 (by omega)).2) (by rw [eu_166]; exact (mOk_tick _ _ hok2 hs2 (by omega)).1) (by rw [← hg2, show t.toNatClampNeg + 1 - k = (t.toNatClampNeg + 1 - (k + 1)) + 1 from by omega, mFarN_s, eu_166]; simp only [c_9, c_67, c_122, c_153, if_true, if_false]) _ _ _ hP hD hS (lv_sub hl [3, 4, 5, 1, 0] rfl)
                · -- no
                  have c_153 := mt (lg_cmp_le _ _).mpr c_153
                  refine lv_lload hx hb dX7_idealDifference_156 (lv_at hl 0 rfl) ?_
                  refine lv_goto (tgt := 163) hx hb dX7_idealDifference_158 (by decide) ?_
                  refine lv_lstore (lv' := [(5, .long (mSize ((P1 (k + J)) - (n2 644)))), (8, .long (mSize ((P1 (k + J)) - (n2 644)))), (0, .ref (a b)), (1, .int t), (2, .int (((mPar μ) 4) / 10)), (7, .int z)]) hx hb dX7_idealDifference_163 hl (by decide) rfl (fun ls hl => ?_)
                  refine lv_aload_n hx hb dX7_idealDifference_165 rfl (lv_at hl 2 rfl) ?_
                  obtain ⟨u_166, eu_166⟩ : ∃ z : Nat → Int64, z = mTick n2 (upd (mPar μ) 14 0) 1 := ⟨_, rfl⟩
                  have hM_166 : Cv Γ l yX7_ticks wsX7_ticks rm_X7_ticks [.ref (a b)] (modW Γ a b (n2, u_16, (mKept μ), (mKm μ), (upd (mPar μ) 14 0), u_16b, (mBef μ), (mUm μ), (mLow μ), (mHigh μ), (mNames μ), (mLen μ), (mText μ), P1, 1, (mSpot μ), (mWhich μ), (mNum μ))) (modW Γ a b (u_166, u_16, (mKept μ), (mKm μ), (upd (mPar μ) 14 0), u_16b, (mBef μ), (mUm μ), (mLow μ), (mHigh μ), (mNames μ), (mLen μ), (mText μ), P1, 1, (mSpot μ), (mWhich μ), (mNum μ))) := by rw [eu_166]; exact c_X7_ticks Γ l a b (n2, u_16, (mKept μ), (mKm μ), (upd (mPar μ) 14 0), u_16b, (mBef μ), (mUm μ), (mLow μ), (mHigh μ), (mNames μ), (mLen μ), (mText μ), P1, 1, (mSpot μ), (mWhich μ), (mNum μ)) hok2
                  refine ca_Vva hh hl.1 hM_166 (cwV 0 hts gX7_idealDifference_X7_ticks rfl rfl rfl (by decide +kernel) ⟨(Nat.le_of_ble_eq_true rfl), (Nat.le_of_ble_eq_true rfl)⟩) (As := []) (rest := []) rfl dX7_idealDifference_166 rfl (Nat.le_of_ble_eq_true rfl) hP hD hS (q0 := 0) (ci := 7) rfl rfl rfl (wf := modW Γ a b (u_166, u_16, (mKept μ), (mKm μ), (upd (mPar μ) 14 0), u_16b, (mBef μ), (mUm μ), (mLow μ), (mHigh μ), (mNames μ), (mLen μ), (mText μ), P1, 1, (mSpot μ), (mWhich μ), (mNum μ))) rfl ⟨Nat.zero_le _, Nat.zero_le _⟩ (fun H locs hP hD hS => ?_)
                  refine lv_iinc (v := (z + 1)) (lv' := [(7, .int (z + 1)), (5, .long (mSize ((P1 (k + J)) - (n2 644)))), (8, .long (mSize ((P1 (k + J)) - (n2 644)))), (0, .ref (a b)), (1, .int t), (2, .int (((mPar μ) 4) / 10))]) hx hb dX7_idealDifference_169 hl (k := 5) rfl rfl (by decide) rfl (fun ls hl => ?_)
                  refine lv_goto (tgt := 119) hx hb dX7_idealDifference_172 (by decide) ?_
                  exact ih (k + 1) _ _ _ (by rw [ek]; exact nI_1 k) (by omega) (by omega) (by rw [eu_166]; exact (mOk_tick _ _ hok2 hs2 (by omega)).2) (by rw [eu_166]; exact (mOk_tick _ _ hok2 hs2 (by omega)).1) (by rw [← hg2, show t.toNatClampNeg + 1 - k = (t.toNatClampNeg + 1 - (k + 1)) + 1 from by omega, mFarN_s, eu_166]; simp only [c_9, c_67, c_122, c_153, if_true, if_false]) _ _ _ hP hD hS (lv_sub hl [3, 4, 5, 1, 0] rfl)
          exact hJ_119 (t.toNatClampNeg + 2) 0 0 _ _ rfl (by omega) (by omega) (by rw [eu_96]; exact (mOk_clr' _ _).2) (by rw [eu_96]; exact (mOk_clr' _ _).1) (by rw [Nat.sub_zero, mIdF, hp, ecl, eu_96, mIdQ, mClr]) _ _ _ hP hD hS (lv_sub hl [2, 3, 4, 1, 0] rfl)
        · -- no
          have hlt : i < t.toNatClampNeg + J + 1 := (by have q0 := c_67; rw [hT.1, hJ, ey, nI_add, nI_ltI (by omega) (by omega)] at q0; omega)
          refine lv_aload_n hx hb dX7_idealDifference_70 rfl (lv_at hl 0 rfl) ?_
          refine va_get (D := gD Γ) (cl := vwCl) (tys := gTy Γ) (ci := 7) (v := .ref (a (b + 11))) (C := RX7) (T := TX7) (N := 18) hx hb hts iX7_idealDifference_7 hown hK hP 0 rfl rfl 13 (Nat.le_of_ble_eq_true rfl) (hts (.fieldLink RX7 41 "DeadTimeLoopModel" "path" "[J") (List.mem_of_getElem? (i := 5) rfl)) (fun _ h9 => h9) rfl dX7_idealDifference_71 ?_
          refine lv_iload hx hb dX7_idealDifference_74 (lv_at hl 4 rfl) ?_
          refine lv_aload_n hx hb dX7_idealDifference_76 rfl (lv_at hl 0 rfl) ?_
          refine va_get (D := gD Γ) (cl := vwCl) (tys := gTy Γ) (ci := 7) (v := .ref (a (b + 1))) (C := RX7) (T := TX7) (N := 18) hx hb hts iX7_idealDifference_7 hown hK hP 0 rfl rfl 0 (Nat.le_of_ble_eq_true rfl) (hts (.fieldLink RX7 7 "DeadTimeLoopModel" "now" "[J") (List.mem_of_getElem? (i := 4) rfl)) (fun _ h9 => h9) rfl dX7_idealDifference_77 ?_
          refine lv_sipush (v := 644) hx hb dX7_idealDifference_80 (by decide) ?_
          refine ka_lald (D := gD Γ) (cl := vwCl) (tys := gTy Γ) hx hb hK hP 1 1 rfl rfl 644 (by decide) (by decide) (by decide) (v := (n1 644)) rfl dX7_idealDifference_83 ?_
          refine ka_last (D := gD Γ) (cl := vwCl) (tys := gTy Γ) hx hb hK hP hD hS 11 1 rfl rfl i ey (by omega) (by decide) (wf := modW Γ a b (n1, u_16, (mKept μ), (mKm μ), (upd (mPar μ) 14 0), u_16b, (mBef μ), (mUm μ), (mLow μ), (mHigh μ), (mNames μ), (mLen μ), (mText μ), (vp_updL P1 i (n1 644)), (mIdeal μ), (mSpot μ), (mWhich μ), (mNum μ))) (modW_set_path Γ a b _ _) dX7_idealDifference_84 (fun H locs hP hD hS => ?_)
          refine lv_aload_n hx hb dX7_idealDifference_85 rfl (lv_at hl 0 rfl) ?_
          obtain ⟨u_86, eu_86⟩ : ∃ z : Nat → Int64, z = mTick n1 (upd (mPar μ) 14 0) (mIdeal μ) := ⟨_, rfl⟩
          have hM_86 : Cv Γ l yX7_ticks wsX7_ticks rm_X7_ticks [.ref (a b)] (modW Γ a b (n1, u_16, (mKept μ), (mKm μ), (upd (mPar μ) 14 0), u_16b, (mBef μ), (mUm μ), (mLow μ), (mHigh μ), (mNames μ), (mLen μ), (mText μ), (vp_updL P1 i (n1 644)), (mIdeal μ), (mSpot μ), (mWhich μ), (mNum μ))) (modW Γ a b (u_86, u_16, (mKept μ), (mKm μ), (upd (mPar μ) 14 0), u_16b, (mBef μ), (mUm μ), (mLow μ), (mHigh μ), (mNames μ), (mLen μ), (mText μ), (vp_updL P1 i (n1 644)), (mIdeal μ), (mSpot μ), (mWhich μ), (mNum μ))) := by rw [eu_86]; exact c_X7_ticks Γ l a b (n1, u_16, (mKept μ), (mKm μ), (upd (mPar μ) 14 0), u_16b, (mBef μ), (mUm μ), (mLow μ), (mHigh μ), (mNames μ), (mLen μ), (mText μ), (vp_updL P1 i (n1 644)), (mIdeal μ), (mSpot μ), (mWhich μ), (mNum μ)) hok1
          refine ca_Vva hh hl.1 hM_86 (cwV 0 hts gX7_idealDifference_X7_ticks rfl rfl rfl (by decide +kernel) ⟨(Nat.le_of_ble_eq_true rfl), (Nat.le_of_ble_eq_true rfl)⟩) (As := []) (rest := []) rfl dX7_idealDifference_86 rfl (Nat.le_of_ble_eq_true rfl) hP hD hS (q0 := 0) (ci := 7) rfl rfl rfl (wf := modW Γ a b (u_86, u_16, (mKept μ), (mKm μ), (upd (mPar μ) 14 0), u_16b, (mBef μ), (mUm μ), (mLow μ), (mHigh μ), (mNames μ), (mLen μ), (mText μ), (vp_updL P1 i (n1 644)), (mIdeal μ), (mSpot μ), (mWhich μ), (mNum μ))) rfl ⟨Nat.zero_le _, Nat.zero_le _⟩ (fun H locs hP hD hS => ?_)
          refine lv_iinc (v := (y + 1)) (lv' := [(5, .int (y + 1)), (0, .ref (a b)), (1, .int t), (2, .int (((mPar μ) 4) / 10)), (3, .long ((mNow μ) 641))]) hx hb dX7_idealDifference_89 hl (k := 4) rfl rfl (by decide) rfl (fun ls hl => ?_)
          refine lv_goto (tgt := 62) hx hb dX7_idealDifference_92 (by decide) ?_
          exact ih (i + 1) _ _ _ (by rw [ey]; exact nI_1 i) (by omega) (by omega) (by rw [eu_86]; exact (mOk_tick _ _ hok1 hs (by omega)).2) (by rw [eu_86]; exact (mOk_tick _ _ hok1 hs (by omega)).1) (by rw [← hg, show t.toNatClampNeg + J + 1 - i = (t.toNatClampNeg + J + 1 - (i + 1)) + 1 from by omega, mPathN_s, eu_86]) _ _ _ hP hD hS (lv_sub hl [1, 2, 3, 4, 0] rfl)
    exact hJ_62 (t.toNatClampNeg + J + 2) 0 0 _ _ rfl (by omega) (by omega) (by rw [eu_47]; exact (mOk_clr' _ _).2) (by rw [eu_47]; exact (mOk_clr' _ _).1) (by rw [Nat.sub_zero, mIdP, ecl, eu_47, mIdQ, mClr]) _ _ _ hP hD hS (lv_sub hl [3, 4, 2, 1, 0] rfl)
  · -- no
    refine lv_ldc hx hb hown (hts (.constant RX7 74 (-2000000001)) (List.mem_of_getElem? (i := 2) rfl)) dX7_idealDifference_12 ?_
    exact re_i hQ ha hx hb hr hlk hAe hP hS dX7_idealDifference_14 (by simp only [jIdeal, c_9, if_true, if_false]) (by simp only [hIdeal, mAsideL, mAsideP, hAside, mPut_par, mPut_aside, mPut_parAside, mPut_now, c_9, if_true, if_false])
