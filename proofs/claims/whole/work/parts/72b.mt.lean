def rm_X7_apply : Room := { frames := 4, cells := 0, slots := 0, locals := 89 }
theorem iX7_apply_7 : ∀ w ∈ u_ws RX7 TX7 18, w ∈ wsX7_apply := fun w h => (List.mem_cons_of_mem _ (List.mem_append_right _ h))
set_option maxHeartbeats 1000000 in
set_option maxRecDepth 100000 in
theorem c_X7_apply (Γ : gT) (l : Launch) (a : Nat → Nat) (b : Nat) (μ : Mst) (hnm : nmOk (mNames μ)) (hL : lenOk (mLen μ)) (hu : uOk (mUm μ)) : Ci Γ l yX7_apply wsX7_apply rm_X7_apply [.ref (a b)] (modW Γ a b μ) (jApply μ) (modW Γ a b (hApply μ)) := by
  refine Ci.of (cc := cX7_apply) (own := RX7) (nL := 2) (ret := (some .int)) (by decide +kernel) rfl rfl (Nat.le_of_ble_eq_true rfl) ?_
  intro p e s m args below meth c A Q H locs ls ha hAe hQ hx hb hml hr hts hown hlk hP hK hD hS hA hG hl
  have hh : Hd Γ p s m args c cX7_apply RX7 2 wsX7_apply A := ⟨⟨hx, hb, hml, hown, hts⟩, hK, hA, hG⟩
  have hl : lv_has ls 2 [(0, .ref (a b))] := hl
  obtain ⟨L, hL80, eL⟩ := id hL
  refine lv_aload_n hx hb dX7_apply_0 rfl (lv_at hl 0 rfl) ?_
  refine va_get (D := gD Γ) (cl := vwCl) (tys := gTy Γ) (ci := 7) (v := .int (mLen μ)) (C := RX7) (T := TX7) (N := 18) hx hb hts iX7_apply_7 hown hK hP 0 rfl rfl 11 (Nat.le_of_ble_eq_true rfl) (hts (.fieldLink RX7 94 "DeadTimeLoopModel" "length" "I") (List.mem_of_getElem? (i := 1) rfl)) (fun _ h9 => h9) rfl dX7_apply_1 ?_
  refine lv_if_eq (tgt := 16) hx hb dX7_apply_4 (by decide) (fun c_4 => ?_) (fun c_4 => ?_)
  · -- yes
    refine lv_ldc hx hb hown (hts (.constant RX7 83 (-2000000002)) (List.mem_of_getElem? (i := 3) rfl)) dX7_apply_16 ?_
    exact re_i hQ ha hx hb hr hlk hAe hP hS dX7_apply_18 (by rw [jApply]; first | rw [if_pos c_4] | rw [if_neg c_4, if_neg c_13]) (by first | (rw [hApply, if_pos c_4]; done) | (rw [hApply, if_neg c_4, if_neg c_13, eu_8, eu_8b, eu_8c] <;> rfl))
  · -- no
    refine lv_aload_n hx hb dX7_apply_7 rfl (lv_at hl 0 rfl) ?_
    obtain ⟨u_8, eu_8⟩ : ∃ z : Int32, z = (aFl μ).2.1 := ⟨_, rfl⟩
    obtain ⟨u_8b, eu_8b⟩ : ∃ z : Int32, z = (aFl μ).2.2.1 := ⟨_, rfl⟩
    obtain ⟨u_8c, eu_8c⟩ : ∃ z : Int32, z = (aFl μ).2.2.2 := ⟨_, rfl⟩
    have hM_8 : Ci Γ l yX7_faultOf wsX7_faultOf rm_X7_faultOf [.ref (a b)] (modW Γ a b μ) ((aFl μ).1) (modW Γ a b ((mNow μ), (mAside μ), (mKept μ), (mKm μ), (mPar μ), (mParA μ), (mBef μ), (mUm μ), (mLow μ), (mHigh μ), (mNames μ), (mLen μ), (mText μ), (mPath μ), (mIdeal μ), u_8, u_8b, u_8c)) := by rw [eu_8, eu_8b, eu_8c]; exact c_X7_faultOf Γ l a b μ hnm hL
    refine ca_Via hh hl.1 hM_8 (cwV 0 hts gX7_apply_X7_faultOf rfl rfl rfl (by decide +kernel) ⟨(Nat.le_of_ble_eq_true rfl), (Nat.le_of_ble_eq_true rfl)⟩) (As := []) (rest := []) rfl dX7_apply_8 rfl (Nat.le_of_ble_eq_true rfl) hP hD hS (q0 := 0) (ci := 7) rfl rfl rfl (wf := modW Γ a b ((mNow μ), (mAside μ), (mKept μ), (mKm μ), (mPar μ), (mParA μ), (mBef μ), (mUm μ), (mLow μ), (mHigh μ), (mNames μ), (mLen μ), (mText μ), (mPath μ), (mIdeal μ), u_8, u_8b, u_8c)) rfl ⟨Nat.zero_le _, Nat.zero_le _⟩ (fun H locs hP hD hS => ?_)
    refine lv_ldc hx hb hown (hts (.constant RX7 82 (-2000000004)) (List.mem_of_getElem? (i := 2) rfl)) dX7_apply_11 ?_
    refine lv_icmp_eq (tgt := 19) hx hb dX7_apply_13 (by decide) (fun c_13 => ?_) (fun c_13 => ?_)
    · -- yes
      refine lv_aload_n hx hb dX7_apply_19 rfl (lv_at hl 0 rfl) ?_
      obtain ⟨u_20, eu_20⟩ : ∃ z : Nat → Int32, z = mKeepB (mBef μ) (mPar μ) (mUm μ) := ⟨_, rfl⟩
      obtain ⟨u_20b, eu_20b⟩ : ∃ z : Int32, z = mKpU (mUm μ) + 1 := ⟨_, rfl⟩
      have hM_20 : Cv Γ l yX7_keeps wsX7_keeps rm_X7_keeps [.ref (a b)] (modW Γ a b ((mNow μ), (mAside μ), (mKept μ), (mKm μ), (mPar μ), (mParA μ), (mBef μ), (mUm μ), (mLow μ), (mHigh μ), (mNames μ), (mLen μ), (mText μ), (mPath μ), (mIdeal μ), u_8, u_8b, u_8c)) (modW Γ a b ((mNow μ), (mAside μ), (mKept μ), (mKm μ), (mPar μ), (mParA μ), u_20, u_20b, (mLow μ), (mHigh μ), (mNames μ), (mLen μ), (mText μ), (mPath μ), (mIdeal μ), u_8, u_8b, u_8c)) := by rw [eu_20, eu_20b]; exact c_X7_keeps Γ l a b ((mNow μ), (mAside μ), (mKept μ), (mKm μ), (mPar μ), (mParA μ), (mBef μ), (mUm μ), (mLow μ), (mHigh μ), (mNames μ), (mLen μ), (mText μ), (mPath μ), (mIdeal μ), u_8, u_8b, u_8c) hu
      refine ca_Vva hh hl.1 hM_20 (cwV 0 hts gX7_apply_X7_keeps rfl rfl rfl (by decide +kernel) ⟨(Nat.le_of_ble_eq_true rfl), (Nat.le_of_ble_eq_true rfl)⟩) (As := []) (rest := []) rfl dX7_apply_20 rfl (Nat.le_of_ble_eq_true rfl) hP hD hS (q0 := 0) (ci := 7) rfl rfl rfl (wf := modW Γ a b ((mNow μ), (mAside μ), (mKept μ), (mKm μ), (mPar μ), (mParA μ), u_20, u_20b, (mLow μ), (mHigh μ), (mNames μ), (mLen μ), (mText μ), (mPath μ), (mIdeal μ), u_8, u_8b, u_8c)) rfl ⟨Nat.zero_le _, Nat.zero_le _⟩ (fun H locs hP hD hS => ?_)
      refine lv_iconst (v := 0) hx hb dX7_apply_23 (by decide) ?_
      refine lv_istore_n (lv' := [(1, .int 0), (0, .ref (a b))]) hx hb dX7_apply_24 rfl hl (by decide) rfl (fun ls hl => ?_)
      refine lv_aload_n hx hb dX7_apply_25 rfl (lv_at hl 1 rfl) ?_
      refine lv_iconst (v := 0) hx hb dX7_apply_26 (by decide) ?_
      refine va_put (D := gD Γ) (cl := vwCl) (tys := gTy Γ) (ci := 7) (v := .int 0) (ty := tyX7 15) (C := RX7) (T := TX7) (N := 18) hx hb hts iX7_apply_7 tyX7 tyX7_ok nmX7 hown hK hP hD hS 0 rfl rfl 15 (Nat.le_of_ble_eq_true rfl) (hts (.fieldLink RX7 98 "DeadTimeLoopModel" "spot" "I") (List.mem_of_getElem? (i := 4) rfl)) (fun _ h9 => h9) rfl (tyX7_ok 15 (Nat.le_of_ble_eq_true rfl)) rfl rfl (Nat.le_of_ble_eq_true rfl) dX7_apply_27 (fun H locs hP hD hS => ?_)
      have hP : va_P (gD Γ) vwCl (modW Γ a b ((mNow μ), (mAside μ), (mKept μ), (mKm μ), (mPar μ), (mParA μ), u_20, u_20b, (mLow μ), (mHigh μ), (mNames μ), (mLen μ), (mText μ), (mPath μ), (mIdeal μ), 0, u_8b, u_8c)) H := hP
      have hD : va_D A (modW Γ a b ((mNow μ), (mAside μ), (mKept μ), (mKm μ), (mPar μ), (mParA μ), u_20, u_20b, (mLow μ), (mHigh μ), (mNames μ), (mLen μ), (mText μ), (mPath μ), (mIdeal μ), 0, u_8b, u_8c)) := hD
      have hJ_30 : ∀ n : Nat, ∀ (S : Nat) (y : Int32) (w1 : Int32) (m1 : Int32) (q1 : Nat → Int32) (k : Int32), (y = nI S) → (S < 2 ^ 31) → (L - S < n) → (aAppN (mText μ) (mLen μ) (mLow μ) (mHigh μ) n y w1 m1 q1 k = aAppN (mText μ) (mLen μ) (mLow μ) (mHigh μ) 81 0 u_8b u_8c (mPar μ) 0) → ∀ (H : Heap) (locs : List Loc) (ls : Array Slot), va_P (gD Γ) vwCl (modW Γ a b ((mNow μ), (mAside μ), (mKept μ), (mKm μ), q1, (mParA μ), u_20, u_20b, (mLow μ), (mHigh μ), (mNames μ), (mLen μ), (mText μ), (mPath μ), (mIdeal μ), y, w1, m1)) H → va_D A (modW Γ a b ((mNow μ), (mAside μ), (mKept μ), (mKm μ), q1, (mParA μ), u_20, u_20b, (mLow μ), (mHigh μ), (mNames μ), (mLen μ), (mText μ), (mPath μ), (mIdeal μ), y, w1, m1)) → va_S A s.heap H locs → lv_has ls 2 [(0, .ref (a b)), (1, .int k)] → W p l e rm_X7_apply s m args below meth c H locs 0 0 Q (F0 m 30 ls []) := by
        intro n
        induction n with
        | zero =>
          intro S y w1 m1 q1 k ey hSb hn hg
          omega
        | succ n ih =>
          intro S y w1 m1 q1 k ey hSb hn hg H locs ls hP hD hS hl
          refine lv_aload_n hx hb dX7_apply_30 rfl (lv_at hl 0 rfl) ?_
          refine va_get (D := gD Γ) (cl := vwCl) (tys := gTy Γ) (ci := 7) (v := .int y) (C := RX7) (T := TX7) (N := 18) hx hb hts iX7_apply_7 hown hK hP 0 rfl rfl 15 (Nat.le_of_ble_eq_true rfl) (hts (.fieldLink RX7 98 "DeadTimeLoopModel" "spot" "I") (List.mem_of_getElem? (i := 4) rfl)) (fun _ h9 => h9) rfl dX7_apply_31 ?_
          refine lv_aload_n hx hb dX7_apply_34 rfl (lv_at hl 0 rfl) ?_
          refine va_get (D := gD Γ) (cl := vwCl) (tys := gTy Γ) (ci := 7) (v := .int (mLen μ)) (C := RX7) (T := TX7) (N := 18) hx hb hts iX7_apply_7 hown hK hP 0 rfl rfl 11 (Nat.le_of_ble_eq_true rfl) (hts (.fieldLink RX7 94 "DeadTimeLoopModel" "length" "I") (List.mem_of_getElem? (i := 1) rfl)) (fun _ h9 => h9) rfl dX7_apply_35 ?_
          refine lv_icmp_ge (tgt := 67) hx hb dX7_apply_38 (by decide) (fun c_38 => ?_) (fun c_38 => ?_)
          · -- yes
            refine lv_iload_n hx hb dX7_apply_67 rfl (lv_at hl 1 rfl) ?_
            exact re_i hQ ha hx hb hr hlk hAe hP hS dX7_apply_68 (by rw [jApply, if_neg c_4, if_pos c_13, aAp, aApp, ← eu_8b, ← eu_8c, ← hg, aAppN_s]; first | rw [if_pos c_38] | rw [if_neg c_38, if_pos c_45]) (by rw [hApply, if_neg c_4, if_pos c_13, aAp, aApp, ← eu_8b, ← eu_8c, ← hg, aAppN_s, mKeeps, ← eu_20, ← eu_20b]; first | (rw [if_pos c_38] <;> rfl) | (rw [if_neg c_38, if_pos c_45, ← eu_42, ← eu_42b, ← eu_42c] <;> rfl))
          · -- no
            refine lv_aload_n hx hb dX7_apply_41 rfl (lv_at hl 0 rfl) ?_
            obtain ⟨u_42, eu_42⟩ : ∃ z : Int32, z = aSp (mText μ) (mLen μ) y := ⟨_, rfl⟩
            obtain ⟨u_42b, eu_42b⟩ : ∃ z : Int32, z = aWh (mText μ) (mLen μ) y := ⟨_, rfl⟩
            obtain ⟨u_42c, eu_42c⟩ : ∃ z : Int32, z = aNm (mText μ) (mLen μ) y m1 := ⟨_, rfl⟩
            have hM_42 : Ci Γ l yX7_isAssignment wsX7_isAssignment rm_X7_isAssignment [.ref (a b)] (modW Γ a b ((mNow μ), (mAside μ), (mKept μ), (mKm μ), q1, (mParA μ), u_20, u_20b, (mLow μ), (mHigh μ), (mNames μ), (mLen μ), (mText μ), (mPath μ), (mIdeal μ), y, w1, m1)) (aR (mText μ) (mLen μ) (mLow μ) (mHigh μ) y) (modW Γ a b ((mNow μ), (mAside μ), (mKept μ), (mKm μ), q1, (mParA μ), u_20, u_20b, (mLow μ), (mHigh μ), (mNames μ), (mLen μ), (mText μ), (mPath μ), (mIdeal μ), u_42, u_42b, u_42c)) := by rw [eu_42, eu_42b, eu_42c]; exact c_X7_isAsg Γ l a b ((mNow μ), (mAside μ), (mKept μ), (mKm μ), q1, (mParA μ), u_20, u_20b, (mLow μ), (mHigh μ), (mNames μ), (mLen μ), (mText μ), (mPath μ), (mIdeal μ), y, w1, m1) hnm hL (show lenOk y from ⟨S, by have := lt_spot hL80 eL hSb (by rw [← ey]; exact c_38); omega, ey⟩)
            refine ca_Via hh hl.1 hM_42 (cwV 0 hts gX7_apply_X7_isAssignment rfl rfl rfl (by decide +kernel) ⟨(Nat.le_of_ble_eq_true rfl), (Nat.le_of_ble_eq_true rfl)⟩) (As := []) (rest := []) rfl dX7_apply_42 rfl (Nat.le_of_ble_eq_true rfl) hP hD hS (q0 := 0) (ci := 7) rfl rfl rfl (wf := modW Γ a b ((mNow μ), (mAside μ), (mKept μ), (mKm μ), q1, (mParA μ), u_20, u_20b, (mLow μ), (mHigh μ), (mNames μ), (mLen μ), (mText μ), (mPath μ), (mIdeal μ), u_42, u_42b, u_42c)) rfl ⟨Nat.zero_le _, Nat.zero_le _⟩ (fun H locs hP hD hS => ?_)
            refine lv_if_eq (tgt := 67) hx hb dX7_apply_45 (by decide) (fun c_45 => ?_) (fun c_45 => ?_)
            · -- yes
              refine lv_iload_n hx hb dX7_apply_67 rfl (lv_at hl 1 rfl) ?_
              exact re_i hQ ha hx hb hr hlk hAe hP hS dX7_apply_68 (by rw [jApply, if_neg c_4, if_pos c_13, aAp, aApp, ← eu_8b, ← eu_8c, ← hg, aAppN_s]; first | rw [if_pos c_38] | rw [if_neg c_38, if_pos c_45]) (by rw [hApply, if_neg c_4, if_pos c_13, aAp, aApp, ← eu_8b, ← eu_8c, ← hg, aAppN_s, mKeeps, ← eu_20, ← eu_20b]; first | (rw [if_pos c_38] <;> rfl) | (rw [if_neg c_38, if_pos c_45, ← eu_42, ← eu_42b, ← eu_42c] <;> rfl))
            · -- no
              obtain ⟨S1, g1, g2, g3⟩ := as_adv (c := mText μ) (len := mLen μ) (lo := mLow μ) (hi := mHigh μ) (S := S) (by have := lt_spot hL80 eL hSb (by rw [← ey]; exact c_38); omega) (by rw [← ey]; exact c_45)
              have gl := lt_spot hL80 eL hSb (by rw [← ey]; exact c_38)
              refine lv_aload_n hx hb dX7_apply_48 rfl (lv_at hl 0 rfl) ?_
              refine va_get (D := gD Γ) (cl := vwCl) (tys := gTy Γ) (ci := 7) (v := .ref (a (b + 4))) (C := RX7) (T := TX7) (N := 18) hx hb hts iX7_apply_7 hown hK hP 0 rfl rfl 4 (Nat.le_of_ble_eq_true rfl) (hts (.fieldLink RX7 19 "DeadTimeLoopModel" "par" "[I") (List.mem_of_getElem? (i := 5) rfl)) (fun _ h9 => h9) rfl dX7_apply_49 ?_
              refine lv_aload_n hx hb dX7_apply_52 rfl (lv_at hl 0 rfl) ?_
              refine va_get (D := gD Γ) (cl := vwCl) (tys := gTy Γ) (ci := 7) (v := .int u_42b) (C := RX7) (T := TX7) (N := 18) hx hb hts iX7_apply_7 hown hK hP 0 rfl rfl 16 (Nat.le_of_ble_eq_true rfl) (hts (.fieldLink RX7 108 "DeadTimeLoopModel" "which" "I") (List.mem_of_getElem? (i := 6) rfl)) (fun _ h9 => h9) rfl dX7_apply_53 ?_
              refine lv_aload_n hx hb dX7_apply_56 rfl (lv_at hl 0 rfl) ?_
              refine va_get (D := gD Γ) (cl := vwCl) (tys := gTy Γ) (ci := 7) (v := .int u_42c) (C := RX7) (T := TX7) (N := 18) hx hb hts iX7_apply_7 hown hK hP 0 rfl rfl 17 (Nat.le_of_ble_eq_true rfl) (hts (.fieldLink RX7 111 "DeadTimeLoopModel" "number" "I") (List.mem_of_getElem? (i := 7) rfl)) (fun _ h9 => h9) rfl dX7_apply_57 ?_
              refine ka_iast (D := gD Γ) (cl := vwCl) (tys := gTy Γ) hx hb hK hP hD hS 4 0 rfl rfl (u_42b.toNatClampNeg) (nI_of_in (by rw [eu_42b]; exact as_wh c_45) (by decide)) (in_lt (by rw [eu_42b]; exact as_wh c_45)) (by decide) (wf := modW Γ a b ((mNow μ), (mAside μ), (mKept μ), (mKm μ), (upd q1 u_42b.toNatClampNeg u_42c), (mParA μ), u_20, u_20b, (mLow μ), (mHigh μ), (mNames μ), (mLen μ), (mText μ), (mPath μ), (mIdeal μ), u_42, u_42b, u_42c)) rfl dX7_apply_60 (fun H locs hP hD hS => ?_)
              refine lv_iinc (v := (k + 1)) (lv' := [(1, .int (k + 1)), (0, .ref (a b))]) hx hb dX7_apply_61 hl (k := 1) rfl rfl (by decide) rfl (fun ls hl => ?_)
              refine lv_goto (tgt := 30) hx hb dX7_apply_64 (by decide) ?_
              exact ih S1 _ _ _ _ _ (by rw [eu_42, ey]; exact g3) (by omega) (by omega) (by rw [← hg, aAppN_s, if_neg c_38, if_neg c_45, eu_42, eu_42b, eu_42c]) _ _ _ hP hD hS (lv_sub hl [1, 0] rfl)
      exact hJ_30 81 0 0 _ _ _ _ rfl (by omega) (by omega) rfl _ _ _ hP hD hS (lv_sub hl [1, 0] rfl)
    · -- no
      refine lv_ldc hx hb hown (hts (.constant RX7 83 (-2000000002)) (List.mem_of_getElem? (i := 3) rfl)) dX7_apply_16 ?_
      exact re_i hQ ha hx hb hr hlk hAe hP hS dX7_apply_18 (by rw [jApply]; first | rw [if_pos c_4] | rw [if_neg c_4, if_neg c_13]) (by first | (rw [hApply, if_pos c_4]; done) | (rw [hApply, if_neg c_4, if_neg c_13, eu_8, eu_8b, eu_8c] <;> rfl))
