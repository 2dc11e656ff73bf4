def rm_X7_in : Room := { frames := 0, cells := 0, slots := 0, locals := 0 }
set_option maxHeartbeats 1000000 in
set_option maxRecDepth 100000 in
theorem c_X7_in (Γ : gT) (l : Launch) (v : Int64) (lo : Int64) (hi : Int64)  : Ci Γ l yX7_in wsX7_in rm_X7_in [.long v, .long lo, .long hi] ([]) (mIn v lo hi) ([]) := by
  refine Ci.of (cc := cX7_in) (own := RX7) (nL := 6) (ret := (some .boolean)) (by decide +kernel) rfl rfl (Nat.le_of_ble_eq_true rfl) ?_
  intro p e s m args below meth c A Q H locs ls ha hAe hQ hx hb hml hr hts hown hlk hP hK hD hS hA hG hl
  have hh : Hd Γ p s m args c cX7_in RX7 6 wsX7_in A := ⟨⟨hx, hb, hml, hown, hts⟩, hK, hA, hG⟩
  have hl : lv_has ls 6 [(0, .long v), (2, .long lo), (4, .long hi)] := hl
  refine lv_lload_n hx hb dX7_in_0 rfl (lv_at hl 0 rfl) ?_
  refine lv_lload_n hx hb dX7_in_1 rfl (lv_at hl 1 rfl) ?_
  refine W.lcmp hx hb dX7_in_2 ?_
  refine lv_if_lt (tgt := 17) hx hb dX7_in_3 (by decide) (fun c_3 => ?_) (fun c_3 => ?_)
  · -- yes
    have c_3 := (lg_cmp_lt _ _).mp c_3
    refine lv_iconst (v := 0) hx hb dX7_in_17 (by decide) ?_
    exact re_z hQ ha hx hb hr hlk hAe hP hS dX7_in_18 rfl (by simp only [mIn, c_3, if_true, if_false, i32_10]) rfl
  · -- no
    have c_3 := mt (lg_cmp_lt _ _).mpr c_3
    refine lv_lload_n hx hb dX7_in_6 rfl (lv_at hl 0 rfl) ?_
    refine lv_lload hx hb dX7_in_7 (lv_at hl 2 rfl) ?_
    refine W.lcmp hx hb dX7_in_9 ?_
    refine lv_if_gt (tgt := 17) hx hb dX7_in_10 (by decide) (fun c_10 => ?_) (fun c_10 => ?_)
    · -- yes
      have c_10 := (lg_cmp_gt _ _).mp c_10
      refine lv_iconst (v := 0) hx hb dX7_in_17 (by decide) ?_
      exact re_z hQ ha hx hb hr hlk hAe hP hS dX7_in_18 rfl (by simp only [mIn, c_3, c_10, if_true, if_false, i32_10]) rfl
    · -- no
      have c_10 := mt (lg_cmp_gt _ _).mpr c_10
      refine lv_iconst (v := 1) hx hb dX7_in_13 (by decide) ?_
      refine lv_goto (tgt := 18) hx hb dX7_in_14 (by decide) ?_
      exact re_z hQ ha hx hb hr hlk hAe hP hS dX7_in_18 rfl (by simp only [mIn, c_3, c_10, if_true, if_false, i32_10]) rfl
def rm_X7_size : Room := { frames := 0, cells := 0, slots := 0, locals := 0 }
set_option maxHeartbeats 1000000 in
set_option maxRecDepth 100000 in
theorem c_X7_size (Γ : gT) (l : Launch) (v : Int64)  : Cl Γ l yX7_size wsX7_size rm_X7_size [.long v] ([]) (mSize v) ([]) := by
  refine Cl.of (cc := cX7_size) (own := RX7) (nL := 2) (ret := (some .long)) (by decide +kernel) rfl rfl (Nat.le_of_ble_eq_true rfl) ?_
  intro p e s m args below meth c A Q H locs ls ha hAe hQ hx hb hml hr hts hown hlk hP hK hD hS hA hG hl
  have hh : Hd Γ p s m args c cX7_size RX7 2 wsX7_size A := ⟨⟨hx, hb, hml, hown, hts⟩, hK, hA, hG⟩
  have hl : lv_has ls 2 [(0, .long v)] := hl
  refine lv_lload_n hx hb dX7_size_0 rfl (lv_at hl 0 rfl) ?_
  refine lv_lconst (v := 0) hx hb dX7_size_1 (by decide) ?_
  refine W.lcmp hx hb dX7_size_2 ?_
  refine lv_if_ge (tgt := 11) hx hb dX7_size_3 (by decide) (fun c_3 => ?_) (fun c_3 => ?_)
  · -- yes
    have c_3 := (lg_cmp_ge _ _).mp c_3
    refine lv_lload_n hx hb dX7_size_11 rfl (lv_at hl 0 rfl) ?_
    exact re_l hQ ha hx hb hr hlk hAe hP hS dX7_size_12 (by simp only [mSize, c_3, if_true, if_false, i32_10]) rfl
  · -- no
    have c_3 := mt (lg_cmp_ge _ _).mpr c_3
    refine lv_lload_n hx hb dX7_size_6 rfl (lv_at hl 0 rfl) ?_
    refine lv_lneg hx hb dX7_size_7 ?_
    refine lv_goto (tgt := 12) hx hb dX7_size_8 (by decide) ?_
    exact re_l hQ ha hx hb hr hlk hAe hP hS dX7_size_12 (by simp only [mSize, c_3, if_true, if_false, i32_10]) rfl
def rm_X7_floor : Room := { frames := 0, cells := 0, slots := 0, locals := 0 }
set_option maxHeartbeats 1000000 in
set_option maxRecDepth 100000 in
theorem c_X7_floor (Γ : gT) (l : Launch) (x : Int64) (y : Int64) (hy : ¬ y = 0) : Cl Γ l yX7_floor wsX7_floor rm_X7_floor [.long x, .long y] ([]) (mFloor x y) ([]) := by
  refine Cl.of (cc := cX7_floor) (own := RX7) (nL := 6) (ret := (some .long)) (by decide +kernel) rfl rfl (Nat.le_of_ble_eq_true rfl) ?_
  intro p e s m args below meth c A Q H locs ls ha hAe hQ hx hb hml hr hts hown hlk hP hK hD hS hA hG hl
  have hh : Hd Γ p s m args c cX7_floor RX7 6 wsX7_floor A := ⟨⟨hx, hb, hml, hown, hts⟩, hK, hA, hG⟩
  have hl : lv_has ls 6 [(0, .long x), (2, .long y)] := hl
  refine lv_lload_n hx hb dX7_floor_0 rfl (lv_at hl 0 rfl) ?_
  refine lv_lload_n hx hb dX7_floor_1 rfl (lv_at hl 1 rfl) ?_
  refine lv_ldiv hx hb dX7_floor_2 hy ?_
  refine lv_lstore (lv' := [(4, .long (x / y)), (0, .long x), (2, .long y)]) hx hb dX7_floor_3 hl (by decide) rfl (fun ls hl => ?_)
  refine lv_lload hx hb dX7_floor_5 (lv_at hl 0 rfl) ?_
  refine lv_lload_n hx hb dX7_floor_7 rfl (lv_at hl 2 rfl) ?_
  refine lv_lmul hx hb dX7_floor_8 ?_
  refine lv_lload_n hx hb dX7_floor_9 rfl (lv_at hl 1 rfl) ?_
  refine W.lcmp hx hb dX7_floor_10 ?_
  refine lv_if_le (tgt := 21) hx hb dX7_floor_11 (by decide) (fun c_11 => ?_) (fun c_11 => ?_)
  · -- yes
    have c_11 := (lg_cmp_le _ _).mp c_11
    refine lv_lload hx hb dX7_floor_21 (lv_at hl 0 rfl) ?_
    exact re_l hQ ha hx hb hr hlk hAe hP hS dX7_floor_23 (by simp only [mFloor, c_11, if_true, if_false, i32_10]) rfl
  · -- no
    have c_11 := mt (lg_cmp_le _ _).mpr c_11
    refine lv_lload hx hb dX7_floor_14 (lv_at hl 0 rfl) ?_
    refine lv_lconst (v := 1) hx hb dX7_floor_16 (by decide) ?_
    refine lv_lsub hx hb dX7_floor_17 ?_
    refine lv_goto (tgt := 23) hx hb dX7_floor_18 (by decide) ?_
    exact re_l hQ ha hx hb hr hlk hAe hP hS dX7_floor_23 (by simp only [mFloor, c_11, if_true, if_false, i32_10]) rfl
def rm_X7_isParameter : Room := { frames := 1, cells := 0, slots := 0, locals := 25 }
set_option maxHeartbeats 1000000 in
set_option maxRecDepth 100000 in
theorem c_X7_isParameter (Γ : gT) (l : Launch) (k : Int32)  : Ci Γ l yX7_isParameter wsX7_isParameter rm_X7_isParameter [.int k] ([]) (fPar k) ([]) := by
  refine Ci.of (cc := cX7_isParameter) (own := RX7) (nL := 1) (ret := (some .boolean)) (by decide +kernel) rfl rfl (Nat.le_of_ble_eq_true rfl) ?_
  intro p e s m args below meth c A Q H locs ls ha hAe hQ hx hb hml hr hts hown hlk hP hK hD hS hA hG hl
  have hh : Hd Γ p s m args c cX7_isParameter RX7 1 wsX7_isParameter A := ⟨⟨hx, hb, hml, hown, hts⟩, hK, hA, hG⟩
  have hl : lv_has ls 1 [(0, .int k)] := hl
  refine lv_iload_n hx hb dX7_isParameter_0 rfl (lv_at hl 0 rfl) ?_
  refine lv_i2l (v := k.toInt64) hx hb dX7_isParameter_1 rfl ?_
  refine lv_lconst (v := 0) hx hb dX7_isParameter_2 (by decide) ?_
  refine lv_ldc2 hx hb hown (hts (.constantLong RX7 64 (14)) (List.mem_of_getElem? (i := 1) rfl)) dX7_isParameter_3 ?_
  refine ca_Si hh hl.1 (c_X7_in Γ l (k.toInt64) 0 14) (va_cwS 3 hts gX7_isParameter_X7_in rfl rfl rfl (by decide +kernel) ⟨(Nat.le_of_ble_eq_true rfl), (Nat.le_of_ble_eq_true rfl)⟩) (As := [.long (k.toInt64), .long 0, .long 14]) (rest := []) rfl dX7_isParameter_6 rfl (Nat.le_of_ble_eq_true rfl) hP hD hS ⟨Nat.zero_le _, Nat.zero_le _⟩ (fun H locs hP hS => ?_)
  exact re_z hQ ha hx hb hr hlk hAe hP hS dX7_isParameter_9 (mIn_bit _ _ _) (by exact mPar_eq k) rfl
def rm_X7_isSignal : Room := { frames := 1, cells := 0, slots := 0, locals := 25 }
set_option maxHeartbeats 1000000 in
set_option maxRecDepth 100000 in
theorem c_X7_isSignal (Γ : gT) (l : Launch) (k : Int32)  : Ci Γ l yX7_isSignal wsX7_isSignal rm_X7_isSignal [.int k] ([]) (fSig k) ([]) := by
  refine Ci.of (cc := cX7_isSignal) (own := RX7) (nL := 1) (ret := (some .boolean)) (by decide +kernel) rfl rfl (Nat.le_of_ble_eq_true rfl) ?_
  intro p e s m args below meth c A Q H locs ls ha hAe hQ hx hb hml hr hts hown hlk hP hK hD hS hA hG hl
  have hh : Hd Γ p s m args c cX7_isSignal RX7 1 wsX7_isSignal A := ⟨⟨hx, hb, hml, hown, hts⟩, hK, hA, hG⟩
  have hl : lv_has ls 1 [(0, .int k)] := hl
  refine lv_iload_n hx hb dX7_isSignal_0 rfl (lv_at hl 0 rfl) ?_
  refine lv_i2l (v := k.toInt64) hx hb dX7_isSignal_1 rfl ?_
  refine lv_lconst (v := 0) hx hb dX7_isSignal_2 (by decide) ?_
  refine lv_ldc2 hx hb hown (hts (.constantLong RX7 194 (9)) (List.mem_of_getElem? (i := 1) rfl)) dX7_isSignal_3 ?_
  refine ca_Si hh hl.1 (c_X7_in Γ l (k.toInt64) 0 9) (va_cwS 3 hts gX7_isSignal_X7_in rfl rfl rfl (by decide +kernel) ⟨(Nat.le_of_ble_eq_true rfl), (Nat.le_of_ble_eq_true rfl)⟩) (As := [.long (k.toInt64), .long 0, .long 9]) (rest := []) rfl dX7_isSignal_6 rfl (Nat.le_of_ble_eq_true rfl) hP hD hS ⟨Nat.zero_le _, Nat.zero_le _⟩ (fun H locs hP hS => ?_)
  exact re_z hQ ha hx hb hr hlk hAe hP hS dX7_isSignal_9 (mIn_bit _ _ _) (by exact mSig_eq k) rfl
def rm_X7_steps : Room := { frames := 1, cells := 0, slots := 0, locals := 25 }
set_option maxHeartbeats 1000000 in
set_option maxRecDepth 100000 in
theorem c_X7_steps (Γ : gT) (l : Launch) (a : Nat → Nat) (b : Nat) (μ : Mst) (s1 : Int64) (g : Int64) (w : Int32)  : Cl Γ l yX7_steps wsX7_steps rm_X7_steps [.ref (a b), .long s1, .long g, .int w] (modW Γ a b μ) (mSteps s1 g w) (modW Γ a b μ) := by
  refine Cl.of (cc := cX7_steps) (own := RX7) (nL := 6) (ret := (some .long)) (by decide +kernel) rfl rfl (Nat.le_of_ble_eq_true rfl) ?_
  intro p e s m args below meth c A Q H locs ls ha hAe hQ hx hb hml hr hts hown hlk hP hK hD hS hA hG hl
  have hh : Hd Γ p s m args c cX7_steps RX7 6 wsX7_steps A := ⟨⟨hx, hb, hml, hown, hts⟩, hK, hA, hG⟩
  have hl : lv_has ls 6 [(0, .ref (a b)), (1, .long s1), (3, .long g), (5, .int w)] := hl
  refine lv_lload_n hx hb dX7_steps_0 rfl (lv_at hl 1 rfl) ?_
  refine lv_iload hx hb dX7_steps_1 (lv_at hl 3 rfl) ?_
  refine lv_i2l (v := w.toInt64) hx hb dX7_steps_3 rfl ?_
  refine lv_lload_n hx hb dX7_steps_4 rfl (lv_at hl 2 rfl) ?_
  refine lv_lload_n hx hb dX7_steps_5 rfl (lv_at hl 1 rfl) ?_
  refine lv_lsub hx hb dX7_steps_6 ?_
  refine lv_lmul hx hb dX7_steps_7 ?_
  refine lv_ldc2 hx hb hown (hts (.constantLong RX7 142 (1000)) (List.mem_of_getElem? (i := 1) rfl)) dX7_steps_8 ?_
  refine ca_Sl hh hl.1 (c_X7_floor Γ l ((w.toInt64) * (g - s1)) 1000 (by decide)) (va_cwS 2 hts gX7_steps_X7_floor rfl rfl rfl (by decide +kernel) ⟨(Nat.le_of_ble_eq_true rfl), (Nat.le_of_ble_eq_true rfl)⟩) (As := [.long ((w.toInt64) * (g - s1)), .long 1000]) (rest := [.long s1]) rfl dX7_steps_11 rfl (Nat.le_of_ble_eq_true rfl) hP hD hS ⟨Nat.zero_le _, Nat.zero_le _⟩ (fun H locs hP hS => ?_)
  refine lv_ladd hx hb dX7_steps_14 ?_
  exact re_l hQ ha hx hb hr hlk hAe hP hS dX7_steps_15 (by simp only [mSteps, if_true, if_false, i32_10]) rfl
def rm_X7_at : Room := { frames := 0, cells := 0, slots := 0, locals := 0 }
theorem iX7_at_7 : ∀ w ∈ u_ws RX7 TX7 18, w ∈ wsX7_at := fun w h => (List.mem_cons_of_mem _ (List.mem_append_right _ h))
set_option maxHeartbeats 1000000 in
set_option maxRecDepth 100000 in
theorem c_X7_at (Γ : gT) (l : Launch) (a : Nat → Nat) (b : Nat) (μ : Mst) (sg : Int32) (t : Int64) (hsg : vp_in sg 10) : Cl Γ l yX7_at wsX7_at rm_X7_at [.ref (a b), .int sg, .long t] (modW Γ a b μ) (mAt (mNow μ) sg t) (modW Γ a b μ) := by
  refine Cl.of (cc := cX7_at) (own := RX7) (nL := 4) (ret := (some .long)) (by decide +kernel) rfl rfl (Nat.le_of_ble_eq_true rfl) ?_
  intro p e s m args below meth c A Q H locs ls ha hAe hQ hx hb hml hr hts hown hlk hP hK hD hS hA hG hl
  have hh : Hd Γ p s m args c cX7_at RX7 4 wsX7_at A := ⟨⟨hx, hb, hml, hown, hts⟩, hK, hA, hG⟩
  have hl : lv_has ls 4 [(0, .ref (a b)), (1, .int sg), (2, .long t)] := hl
  refine lv_lload_n hx hb dX7_at_0 rfl (lv_at hl 2 rfl) ?_
  refine lv_lconst (v := 0) hx hb dX7_at_1 (by decide) ?_
  refine W.lcmp hx hb dX7_at_2 ?_
  refine lv_if_ge (tgt := 10) hx hb dX7_at_3 (by decide) (fun c_3 => ?_) (fun c_3 => ?_)
  · -- yes
    have c_3 := (lg_cmp_ge _ _).mp c_3
    refine lv_aload_n hx hb dX7_at_10 rfl (lv_at hl 0 rfl) ?_
    refine va_get (D := gD Γ) (cl := vwCl) (tys := gTy Γ) (ci := 7) (v := .ref (a (b + 1))) (C := RX7) (T := TX7) (N := 18) hx hb hts iX7_at_7 hown hK hP 0 rfl rfl 0 (Nat.le_of_ble_eq_true rfl) (hts (.fieldLink RX7 7 "DeadTimeLoopModel" "now" "[J") (List.mem_of_getElem? (i := 1) rfl)) (fun _ h9 => h9) rfl dX7_at_11 ?_
    refine lv_bipush (v := 64) hx hb dX7_at_14 (by decide) ?_
    refine lv_iload_n hx hb dX7_at_16 rfl (lv_at hl 1 rfl) ?_
    refine lv_imul hx hb dX7_at_17 ?_
    refine lv_lload_n hx hb dX7_at_18 rfl (lv_at hl 2 rfl) ?_
    refine lv_ldc2 hx hb hown (hts (.constantLong RX7 130 (64)) (List.mem_of_getElem? (i := 2) rfl)) dX7_at_19 ?_
    refine lv_lrem hx hb dX7_at_22 (by decide) ?_
    refine lv_l2i (v := (lRem t 64).toInt32) hx hb dX7_at_23 rfl ?_
    refine lv_iadd hx hb dX7_at_24 ?_
    refine ka_lald (D := gD Γ) (cl := vwCl) (tys := gTy Γ) hx hb hK hP 1 1 rfl rfl (((64 * sg) + ((lRem t 64).toInt32)).toNatClampNeg) (nI_of_in (at_in hsg c_3) (by decide)) (in_lt (at_in hsg c_3)) (by decide) (v := ((mNow μ) (((64 * sg) + ((lRem t 64).toInt32)).toNatClampNeg))) rfl dX7_at_25 ?_
    exact re_l hQ ha hx hb hr hlk hAe hP hS dX7_at_26 (by simp only [mAt, c_3, if_true, if_false, i32_10]) rfl
  · -- no
    have c_3 := mt (lg_cmp_ge _ _).mpr c_3
    refine lv_lconst (v := 0) hx hb dX7_at_6 (by decide) ?_
    refine lv_goto (tgt := 26) hx hb dX7_at_7 (by decide) ?_
    exact re_l hQ ha hx hb hr hlk hAe hP hS dX7_at_26 (by simp only [mAt, c_3, if_true, if_false, i32_10]) rfl
def rm_X7_records : Room := { frames := 0, cells := 0, slots := 0, locals := 0 }
theorem iX7_records_7 : ∀ w ∈ u_ws RX7 TX7 18, w ∈ wsX7_records := fun w h => (List.mem_cons_of_mem _ (List.mem_append_right _ h))
set_option maxHeartbeats 1000000 in
set_option maxRecDepth 100000 in
theorem c_X7_records (Γ : gT) (l : Launch) (a : Nat → Nat) (b : Nat) (μ : Mst) (sg : Int32) (v : Int64) (hsg : vp_in sg 10) (hok : mOk (mNow μ)) : Cv Γ l yX7_records wsX7_records rm_X7_records [.ref (a b), .int sg, .long v] (modW Γ a b μ) (modW Γ a b (mPut_now μ (mRec (mNow μ) sg v))) := by
  refine Cv.of (cc := cX7_records) (own := RX7) (nL := 4) (ret := none) (by decide +kernel) rfl rfl (Nat.le_of_ble_eq_true rfl) ?_
  intro p e s m args below meth c A Q H locs ls ha hAe hQ hx hb hml hr hts hown hlk hP hK hD hS hA hG hl
  have hh : Hd Γ p s m args c cX7_records RX7 4 wsX7_records A := ⟨⟨hx, hb, hml, hown, hts⟩, hK, hA, hG⟩
  have hl : lv_has ls 4 [(0, .ref (a b)), (1, .int sg), (2, .long v)] := hl
  refine lv_aload_n hx hb dX7_records_0 rfl (lv_at hl 0 rfl) ?_
  refine va_get (D := gD Γ) (cl := vwCl) (tys := gTy Γ) (ci := 7) (v := .ref (a (b + 1))) (C := RX7) (T := TX7) (N := 18) hx hb hts iX7_records_7 hown hK hP 0 rfl rfl 0 (Nat.le_of_ble_eq_true rfl) (hts (.fieldLink RX7 7 "DeadTimeLoopModel" "now" "[J") (List.mem_of_getElem? (i := 1) rfl)) (fun _ h9 => h9) rfl dX7_records_1 ?_
  refine lv_bipush (v := 64) hx hb dX7_records_4 (by decide) ?_
  refine lv_iload_n hx hb dX7_records_6 rfl (lv_at hl 1 rfl) ?_
  refine lv_imul hx hb dX7_records_7 ?_
  refine lv_aload_n hx hb dX7_records_8 rfl (lv_at hl 0 rfl) ?_
  refine va_get (D := gD Γ) (cl := vwCl) (tys := gTy Γ) (ci := 7) (v := .ref (a (b + 1))) (C := RX7) (T := TX7) (N := 18) hx hb hts iX7_records_7 hown hK hP 0 rfl rfl 0 (Nat.le_of_ble_eq_true rfl) (hts (.fieldLink RX7 7 "DeadTimeLoopModel" "now" "[J") (List.mem_of_getElem? (i := 1) rfl)) (fun _ h9 => h9) rfl dX7_records_9 ?_
  refine lv_sipush (v := 640) hx hb dX7_records_12 (by decide) ?_
  refine ka_lald (D := gD Γ) (cl := vwCl) (tys := gTy Γ) hx hb hK hP 1 1 rfl rfl 640 (by decide) (by decide) (by decide) (v := ((mNow μ) 640)) rfl dX7_records_15 ?_
  refine lv_ldc2 hx hb hown (hts (.constantLong RX7 130 (64)) (List.mem_of_getElem? (i := 2) rfl)) dX7_records_16 ?_
  refine lv_lrem hx hb dX7_records_19 (by decide) ?_
  refine lv_l2i (v := (lRem ((mNow μ) 640) 64).toInt32) hx hb dX7_records_20 rfl ?_
  refine lv_iadd hx hb dX7_records_21 ?_
  refine lv_lload_n hx hb dX7_records_22 rfl (lv_at hl 2 rfl) ?_
  refine ka_last (D := gD Γ) (cl := vwCl) (tys := gTy Γ) hx hb hK hP hD hS 1 1 rfl rfl (((64 * sg) + ((lRem ((mNow μ) 640) 64).toInt32)).toNatClampNeg) (nI_of_in (at_in hsg hok.1) (by decide)) (in_lt (at_in hsg hok.1)) (by decide) (wf := modW Γ a b ((vp_updL (mNow μ) (((64 * sg) + ((lRem ((mNow μ) 640) 64).toInt32)).toNatClampNeg) v), (mAside μ), (mKept μ), (mKm μ), (mPar μ), (mParA μ), (mBef μ), (mUm μ), (mLow μ), (mHigh μ), (mNames μ), (mLen μ), (mText μ), (mPath μ), (mIdeal μ), (mSpot μ), (mWhich μ), (mNum μ))) rfl dX7_records_23 (fun H locs hP hD hS => ?_)
  exact re_v hQ ha hx hb hr hlk hAe hP hS dX7_records_24 (by simp only [mRec, mPut_now])
def rm_X7_delayed : Room := { frames := 1, cells := 0, slots := 0, locals := 25 }
theorem iX7_delayed_7 : ∀ w ∈ u_ws RX7 TX7 18, w ∈ wsX7_delayed := fun w h => (List.mem_cons_of_mem _ (List.mem_append_right _ h))
set_option maxHeartbeats 1000000 in
set_option maxRecDepth 100000 in
theorem c_X7_delayed (Γ : gT) (l : Launch) (a : Nat → Nat) (b : Nat) (μ : Mst) (sg : Int32) (dd : Int32) (hsg : vp_in sg 10) : Cl Γ l yX7_delayed wsX7_delayed rm_X7_delayed [.ref (a b), .int sg, .int dd] (modW Γ a b μ) (mDel (mNow μ) sg dd) (modW Γ a b μ) := by
  refine Cl.of (cc := cX7_delayed) (own := RX7) (nL := 7) (ret := (some .long)) (by decide +kernel) rfl rfl (Nat.le_of_ble_eq_true rfl) ?_
  intro p e s m args below meth c A Q H locs ls ha hAe hQ hx hb hml hr hts hown hlk hP hK hD hS hA hG hl
  have hh : Hd Γ p s m args c cX7_delayed RX7 7 wsX7_delayed A := ⟨⟨hx, hb, hml, hown, hts⟩, hK, hA, hG⟩
  have hl : lv_has ls 7 [(0, .ref (a b)), (1, .int sg), (2, .int dd)] := hl
  refine lv_iload_n hx hb dX7_delayed_0 rfl (lv_at hl 2 rfl) ?_
  refine lv_bipush (v := 10) hx hb dX7_delayed_1 (by decide) ?_
  refine lv_idiv hx hb dX7_delayed_3 (by decide) ?_
  refine lv_istore_n (lv' := [(3, .int (dd / 10)), (0, .ref (a b)), (1, .int sg), (2, .int dd)]) hx hb dX7_delayed_4 rfl hl (by decide) rfl (fun ls hl => ?_)
  refine lv_iload_n hx hb dX7_delayed_5 rfl (lv_at hl 3 rfl) ?_
  refine lv_bipush (v := 10) hx hb dX7_delayed_6 (by decide) ?_
  refine lv_irem hx hb dX7_delayed_8 (by decide) ?_
  refine lv_istore (lv' := [(4, .int (iRem dd 10)), (3, .int (dd / 10)), (0, .ref (a b)), (1, .int sg), (2, .int dd)]) hx hb dX7_delayed_9 hl (by decide) rfl (fun ls hl => ?_)
  refine lv_aload_n hx hb dX7_delayed_11 rfl (lv_at hl 2 rfl) ?_
  refine va_get (D := gD Γ) (cl := vwCl) (tys := gTy Γ) (ci := 7) (v := .ref (a (b + 1))) (C := RX7) (T := TX7) (N := 18) hx hb hts iX7_delayed_7 hown hK hP 0 rfl rfl 0 (Nat.le_of_ble_eq_true rfl) (hts (.fieldLink RX7 7 "DeadTimeLoopModel" "now" "[J") (List.mem_of_getElem? (i := 1) rfl)) (fun _ h9 => h9) rfl dX7_delayed_12 ?_
  refine lv_sipush (v := 640) hx hb dX7_delayed_15 (by decide) ?_
  refine ka_lald (D := gD Γ) (cl := vwCl) (tys := gTy Γ) hx hb hK hP 1 1 rfl rfl 640 (by decide) (by decide) (by decide) (v := ((mNow μ) 640)) rfl dX7_delayed_18 ?_
  refine lv_lstore (lv' := [(5, .long ((mNow μ) 640)), (4, .int (iRem dd 10)), (3, .int (dd / 10)), (0, .ref (a b)), (1, .int sg), (2, .int dd)]) hx hb dX7_delayed_19 hl (by decide) rfl (fun ls hl => ?_)
  refine lv_aload_n hx hb dX7_delayed_21 rfl (lv_at hl 3 rfl) ?_
  refine lv_iload_n hx hb dX7_delayed_22 rfl (lv_at hl 4 rfl) ?_
  refine lv_lload hx hb dX7_delayed_23 (lv_at hl 0 rfl) ?_
  refine lv_iload_n hx hb dX7_delayed_25 rfl (lv_at hl 2 rfl) ?_
  refine lv_i2l (v := (dd / 10).toInt64) hx hb dX7_delayed_26 rfl ?_
  refine lv_lsub hx hb dX7_delayed_27 ?_
  refine ca_Vla hh hl.1 (c_X7_at Γ l a b μ sg (((mNow μ) 640) - ((dd / 10).toInt64)) hsg) (cwV 2 hts gX7_delayed_X7_at rfl rfl rfl (by decide +kernel) ⟨(Nat.le_of_ble_eq_true rfl), (Nat.le_of_ble_eq_true rfl)⟩) (As := [.int sg, .long (((mNow μ) 640) - ((dd / 10).toInt64))]) (rest := []) rfl dX7_delayed_28 rfl (Nat.le_of_ble_eq_true rfl) hP hD hS (q0 := 0) (ci := 7) rfl rfl rfl (wf := modW Γ a b μ) rfl ⟨Nat.zero_le _, Nat.zero_le _⟩ (fun H locs hP hD hS => ?_)
  refine lv_bipush (v := 10) hx hb dX7_delayed_31 (by decide) ?_
  refine lv_iload hx hb dX7_delayed_33 (lv_at hl 1 rfl) ?_
  refine lv_isub hx hb dX7_delayed_35 ?_
  refine lv_i2l (v := (10 - (iRem dd 10)).toInt64) hx hb dX7_delayed_36 rfl ?_
  refine lv_lmul hx hb dX7_delayed_37 ?_
  refine lv_aload_n hx hb dX7_delayed_38 rfl (lv_at hl 3 rfl) ?_
  refine lv_iload_n hx hb dX7_delayed_39 rfl (lv_at hl 4 rfl) ?_
  refine lv_lload hx hb dX7_delayed_40 (lv_at hl 0 rfl) ?_
  refine lv_iload_n hx hb dX7_delayed_42 rfl (lv_at hl 2 rfl) ?_
  refine lv_i2l (v := (dd / 10).toInt64) hx hb dX7_delayed_43 rfl ?_
  refine lv_lsub hx hb dX7_delayed_44 ?_
  refine lv_lconst (v := 1) hx hb dX7_delayed_45 (by decide) ?_
  refine lv_lsub hx hb dX7_delayed_46 ?_
  refine ca_Vla hh hl.1 (c_X7_at Γ l a b μ sg ((((mNow μ) 640) - ((dd / 10).toInt64)) - 1) hsg) (cwV 2 hts gX7_delayed_X7_at rfl rfl rfl (by decide +kernel) ⟨(Nat.le_of_ble_eq_true rfl), (Nat.le_of_ble_eq_true rfl)⟩) (As := [.int sg, .long ((((mNow μ) 640) - ((dd / 10).toInt64)) - 1)]) (rest := [.long ((mAt (mNow μ) sg (((mNow μ) 640) - ((dd / 10).toInt64))) * ((10 - (iRem dd 10)).toInt64))]) rfl dX7_delayed_47 rfl (Nat.le_of_ble_eq_true rfl) hP hD hS (q0 := 0) (ci := 7) rfl rfl rfl (wf := modW Γ a b μ) rfl ⟨Nat.zero_le _, Nat.zero_le _⟩ (fun H locs hP hD hS => ?_)
  refine lv_iload hx hb dX7_delayed_50 (lv_at hl 1 rfl) ?_
  refine lv_i2l (v := (iRem dd 10).toInt64) hx hb dX7_delayed_52 rfl ?_
  refine lv_lmul hx hb dX7_delayed_53 ?_
  refine lv_ladd hx hb dX7_delayed_54 ?_
  refine lv_ldc2 hx hb hown (hts (.constantLong RX7 136 (10)) (List.mem_of_getElem? (i := 2) rfl)) dX7_delayed_55 ?_
  refine ca_Sl hh hl.1 (c_X7_floor Γ l (((mAt (mNow μ) sg (((mNow μ) 640) - ((dd / 10).toInt64))) * ((10 - (iRem dd 10)).toInt64)) + ((mAt (mNow μ) sg ((((mNow μ) 640) - ((dd / 10).toInt64)) - 1)) * ((iRem dd 10).toInt64))) 10 (by decide)) (va_cwS 2 hts gX7_delayed_X7_floor rfl rfl rfl (by decide +kernel) ⟨(Nat.le_of_ble_eq_true rfl), (Nat.le_of_ble_eq_true rfl)⟩) (As := [.long (((mAt (mNow μ) sg (((mNow μ) 640) - ((dd / 10).toInt64))) * ((10 - (iRem dd 10)).toInt64)) + ((mAt (mNow μ) sg ((((mNow μ) 640) - ((dd / 10).toInt64)) - 1)) * ((iRem dd 10).toInt64))), .long 10]) (rest := []) rfl dX7_delayed_58 rfl (Nat.le_of_ble_eq_true rfl) hP hD hS ⟨Nat.zero_le _, Nat.zero_le _⟩ (fun H locs hP hS => ?_)
  exact re_l hQ ha hx hb hr hlk hAe hP hS dX7_delayed_61 (by simp only [mDel, if_true, if_false, i32_10]) rfl
def rm_X7_noise : Room := { frames := 0, cells := 0, slots := 0, locals := 0 }
theorem iX7_noise_7 : ∀ w ∈ u_ws RX7 TX7 18, w ∈ wsX7_noise := fun w h => (List.mem_cons_of_mem _ (List.mem_append_right _ h))
set_option maxHeartbeats 1000000 in
set_option maxRecDepth 100000 in
theorem c_X7_noise (Γ : gT) (l : Launch) (a : Nat → Nat) (b : Nat) (μ : Mst)  : Cl Γ l yX7_noise wsX7_noise rm_X7_noise [.ref (a b)] (modW Γ a b μ) (mNoise (mNow μ) (mPar μ)) (modW Γ a b μ) := by
  refine Cl.of (cc := cX7_noise) (own := RX7) (nL := 3) (ret := (some .long)) (by decide +kernel) rfl rfl (Nat.le_of_ble_eq_true rfl) ?_
  intro p e s m args below meth c A Q H locs ls ha hAe hQ hx hb hml hr hts hown hlk hP hK hD hS hA hG hl
  have hh : Hd Γ p s m args c cX7_noise RX7 3 wsX7_noise A := ⟨⟨hx, hb, hml, hown, hts⟩, hK, hA, hG⟩
  have hl : lv_has ls 3 [(0, .ref (a b))] := hl
  refine lv_ldc2 hx hb hown (hts (.constantLong RX7 144 (7919)) (List.mem_of_getElem? (i := 1) rfl)) dX7_noise_0 ?_
  refine lv_aload_n hx hb dX7_noise_3 rfl (lv_at hl 0 rfl) ?_
  refine va_get (D := gD Γ) (cl := vwCl) (tys := gTy Γ) (ci := 7) (v := .ref (a (b + 1))) (C := RX7) (T := TX7) (N := 18) hx hb hts iX7_noise_7 hown hK hP 0 rfl rfl 0 (Nat.le_of_ble_eq_true rfl) (hts (.fieldLink RX7 7 "DeadTimeLoopModel" "now" "[J") (List.mem_of_getElem? (i := 2) rfl)) (fun _ h9 => h9) rfl dX7_noise_4 ?_
  refine lv_sipush (v := 640) hx hb dX7_noise_7 (by decide) ?_
  refine ka_lald (D := gD Γ) (cl := vwCl) (tys := gTy Γ) hx hb hK hP 1 1 rfl rfl 640 (by decide) (by decide) (by decide) (v := ((mNow μ) 640)) rfl dX7_noise_10 ?_
  refine lv_lmul hx hb dX7_noise_11 ?_
  refine lv_ldc2 hx hb hown (hts (.constantLong RX7 146 (6151)) (List.mem_of_getElem? (i := 3) rfl)) dX7_noise_12 ?_
  refine lv_aload_n hx hb dX7_noise_15 rfl (lv_at hl 0 rfl) ?_
  refine va_get (D := gD Γ) (cl := vwCl) (tys := gTy Γ) (ci := 7) (v := .ref (a (b + 1))) (C := RX7) (T := TX7) (N := 18) hx hb hts iX7_noise_7 hown hK hP 0 rfl rfl 0 (Nat.le_of_ble_eq_true rfl) (hts (.fieldLink RX7 7 "DeadTimeLoopModel" "now" "[J") (List.mem_of_getElem? (i := 2) rfl)) (fun _ h9 => h9) rfl dX7_noise_16 ?_
  refine lv_sipush (v := 643) hx hb dX7_noise_19 (by decide) ?_
  refine ka_lald (D := gD Γ) (cl := vwCl) (tys := gTy Γ) hx hb hK hP 1 1 rfl rfl 643 (by decide) (by decide) (by decide) (v := ((mNow μ) 643)) rfl dX7_noise_22 ?_
  refine lv_lmul hx hb dX7_noise_23 ?_
  refine lv_ladd hx hb dX7_noise_24 ?_
  refine lv_lconst (v := 1) hx hb dX7_noise_25 (by decide) ?_
  refine lv_ladd hx hb dX7_noise_26 ?_
  refine lv_lstore_n (lv' := [(1, .long (((7919 * ((mNow μ) 640)) + (6151 * ((mNow μ) 643))) + 1)), (0, .ref (a b))]) hx hb dX7_noise_27 rfl hl (by decide) rfl (fun ls hl => ?_)
  refine lv_lload_n hx hb dX7_noise_28 rfl (lv_at hl 0 rfl) ?_
  refine lv_lload_n hx hb dX7_noise_29 rfl (lv_at hl 0 rfl) ?_
  refine lv_lmul hx hb dX7_noise_30 ?_
  refine lv_ldc2 hx hb hown (hts (.constantLong RX7 148 (65521)) (List.mem_of_getElem? (i := 4) rfl)) dX7_noise_31 ?_
  refine lv_lrem hx hb dX7_noise_34 (by decide) ?_
  refine lv_ldc2 hx hb hown (hts (.constantLong RX7 150 (2)) (List.mem_of_getElem? (i := 5) rfl)) dX7_noise_35 ?_
  refine lv_aload_n hx hb dX7_noise_38 rfl (lv_at hl 1 rfl) ?_
  refine va_get (D := gD Γ) (cl := vwCl) (tys := gTy Γ) (ci := 7) (v := .ref (a (b + 4))) (C := RX7) (T := TX7) (N := 18) hx hb hts iX7_noise_7 hown hK hP 0 rfl rfl 4 (Nat.le_of_ble_eq_true rfl) (hts (.fieldLink RX7 19 "DeadTimeLoopModel" "par" "[I") (List.mem_of_getElem? (i := 6) rfl)) (fun _ h9 => h9) rfl dX7_noise_39 ?_
  refine lv_bipush (v := 14) hx hb dX7_noise_42 (by decide) ?_
  refine ka_iald (D := gD Γ) (cl := vwCl) (tys := gTy Γ) hx hb hK hP 4 0 rfl rfl 14 (by decide) (by decide) (by decide) (v := ((mPar μ) 14)) rfl dX7_noise_44 ?_
  refine lv_i2l (v := ((mPar μ) 14).toInt64) hx hb dX7_noise_45 rfl ?_
  refine lv_lmul hx hb dX7_noise_46 ?_
  refine lv_lconst (v := 1) hx hb dX7_noise_47 (by decide) ?_
  refine lv_ladd hx hb dX7_noise_48 ?_
  refine lv_lrem hx hb dX7_noise_49 (odd_ne _) ?_
  refine lv_aload_n hx hb dX7_noise_50 rfl (lv_at hl 1 rfl) ?_
  refine va_get (D := gD Γ) (cl := vwCl) (tys := gTy Γ) (ci := 7) (v := .ref (a (b + 4))) (C := RX7) (T := TX7) (N := 18) hx hb hts iX7_noise_7 hown hK hP 0 rfl rfl 4 (Nat.le_of_ble_eq_true rfl) (hts (.fieldLink RX7 19 "DeadTimeLoopModel" "par" "[I") (List.mem_of_getElem? (i := 6) rfl)) (fun _ h9 => h9) rfl dX7_noise_51 ?_
  refine lv_bipush (v := 14) hx hb dX7_noise_54 (by decide) ?_
  refine ka_iald (D := gD Γ) (cl := vwCl) (tys := gTy Γ) hx hb hK hP 4 0 rfl rfl 14 (by decide) (by decide) (by decide) (v := ((mPar μ) 14)) rfl dX7_noise_56 ?_
  refine lv_i2l (v := ((mPar μ) 14).toInt64) hx hb dX7_noise_57 rfl ?_
  refine lv_lsub hx hb dX7_noise_58 ?_
  exact re_l hQ ha hx hb hr hlk hAe hP hS dX7_noise_59 (by simp only [mNoise, mNz1, if_true, if_false, i32_10]) rfl
def rm_X7_judges : Room := { frames := 1, cells := 0, slots := 0, locals := 21 }
theorem iX7_judges_7 : ∀ w ∈ u_ws RX7 TX7 18, w ∈ wsX7_judges := fun w h => (List.mem_cons_of_mem _ (List.mem_append_right _ h))
set_option maxHeartbeats 1000000 in
set_option maxRecDepth 100000 in
theorem c_X7_judges (Γ : gT) (l : Launch) (a : Nat → Nat) (b : Nat) (μ : Mst) (mis : Int64)  : Cv Γ l yX7_judges wsX7_judges rm_X7_judges [.ref (a b), .long mis] (modW Γ a b μ) (modW Γ a b (mPut_now μ (mJud (mNow μ) (mPar μ) mis))) := by
  refine Cv.of (cc := cX7_judges) (own := RX7) (nL := 5) (ret := none) (by decide +kernel) rfl rfl (Nat.le_of_ble_eq_true rfl) ?_
  intro p e s m args below meth c A Q H locs ls ha hAe hQ hx hb hml hr hts hown hlk hP hK hD hS hA hG hl
  have hh : Hd Γ p s m args c cX7_judges RX7 5 wsX7_judges A := ⟨⟨hx, hb, hml, hown, hts⟩, hK, hA, hG⟩
  have hl : lv_has ls 5 [(0, .ref (a b)), (1, .long mis)] := hl
  refine lv_lload_n hx hb dX7_judges_0 rfl (lv_at hl 1 rfl) ?_
  refine ca_Sl hh hl.1 (c_X7_size Γ l mis) (va_cwS 1 hts gX7_judges_X7_size rfl rfl rfl (by decide +kernel) ⟨(Nat.le_of_ble_eq_true rfl), (Nat.le_of_ble_eq_true rfl)⟩) (As := [.long mis]) (rest := []) rfl dX7_judges_1 rfl (Nat.le_of_ble_eq_true rfl) hP hD hS ⟨Nat.zero_le _, Nat.zero_le _⟩ (fun H locs hP hS => ?_)
  refine lv_aload_n hx hb dX7_judges_4 rfl (lv_at hl 0 rfl) ?_
  refine va_get (D := gD Γ) (cl := vwCl) (tys := gTy Γ) (ci := 7) (v := .ref (a (b + 4))) (C := RX7) (T := TX7) (N := 18) hx hb hts iX7_judges_7 hown hK hP 0 rfl rfl 4 (Nat.le_of_ble_eq_true rfl) (hts (.fieldLink RX7 19 "DeadTimeLoopModel" "par" "[I") (List.mem_of_getElem? (i := 1) rfl)) (fun _ h9 => h9) rfl dX7_judges_5 ?_
  refine lv_bipush (v := 12) hx hb dX7_judges_8 (by decide) ?_
  refine ka_iald (D := gD Γ) (cl := vwCl) (tys := gTy Γ) hx hb hK hP 4 0 rfl rfl 12 (by decide) (by decide) (by decide) (v := ((mPar μ) 12)) rfl dX7_judges_10 ?_
  refine lv_i2l (v := ((mPar μ) 12).toInt64) hx hb dX7_judges_11 rfl ?_
  refine W.lcmp hx hb dX7_judges_12 ?_
  refine lv_if_le (tgt := 20) hx hb dX7_judges_13 (by decide) (fun c_13 => ?_) (fun c_13 => ?_)
  · -- yes
    have c_13 := (lg_cmp_le _ _).mp c_13
    refine lv_iconst (v := 0) hx hb dX7_judges_20 (by decide) ?_
    refine lv_istore_n (lv' := [(3, .int 0), (0, .ref (a b)), (1, .long mis)]) hx hb dX7_judges_21 rfl hl (by decide) rfl (fun ls hl => ?_)
    refine lv_aload_n hx hb dX7_judges_22 rfl (lv_at hl 1 rfl) ?_
    refine va_get (D := gD Γ) (cl := vwCl) (tys := gTy Γ) (ci := 7) (v := .ref (a (b + 1))) (C := RX7) (T := TX7) (N := 18) hx hb hts iX7_judges_7 hown hK hP 0 rfl rfl 0 (Nat.le_of_ble_eq_true rfl) (hts (.fieldLink RX7 7 "DeadTimeLoopModel" "now" "[J") (List.mem_of_getElem? (i := 2) rfl)) (fun _ h9 => h9) rfl dX7_judges_23 ?_
    refine lv_sipush (v := 649) hx hb dX7_judges_26 (by decide) ?_
    refine lv_iload_n hx hb dX7_judges_29 rfl (lv_at hl 0 rfl) ?_
    refine lv_if_eq (tgt := 46) hx hb dX7_judges_30 (by decide) (fun _ => ?_) (fun c => (c (by decide)).elim)
    refine lv_lconst (v := 0) hx hb dX7_judges_46 (by decide) ?_
    refine ka_last (D := gD Γ) (cl := vwCl) (tys := gTy Γ) hx hb hK hP hD hS 1 1 rfl rfl 649 (by decide) (by decide) (by decide) (wf := modW Γ a b ((vp_updL (mNow μ) 649 0), (mAside μ), (mKept μ), (mKm μ), (mPar μ), (mParA μ), (mBef μ), (mUm μ), (mLow μ), (mHigh μ), (mNames μ), (mLen μ), (mText μ), (mPath μ), (mIdeal μ), (mSpot μ), (mWhich μ), (mNum μ))) rfl dX7_judges_47 (fun H locs hP hD hS => ?_)
    refine lv_aload_n hx hb dX7_judges_48 rfl (lv_at hl 1 rfl) ?_
    refine va_get (D := gD Γ) (cl := vwCl) (tys := gTy Γ) (ci := 7) (v := .ref (a (b + 1))) (C := RX7) (T := TX7) (N := 18) hx hb hts iX7_judges_7 hown hK hP 0 rfl rfl 0 (Nat.le_of_ble_eq_true rfl) (hts (.fieldLink RX7 7 "DeadTimeLoopModel" "now" "[J") (List.mem_of_getElem? (i := 2) rfl)) (fun _ h9 => h9) rfl dX7_judges_49 ?_
    refine lv_sipush (v := 650) hx hb dX7_judges_52 (by decide) ?_
    refine lv_iload_n hx hb dX7_judges_55 rfl (lv_at hl 0 rfl) ?_
    refine lv_if_eq (tgt := 63) hx hb dX7_judges_56 (by decide) (fun _ => ?_) (fun c => (c (by decide)).elim)
    refine lv_aload_n hx hb dX7_judges_63 rfl (lv_at hl 1 rfl) ?_
    refine va_get (D := gD Γ) (cl := vwCl) (tys := gTy Γ) (ci := 7) (v := .ref (a (b + 1))) (C := RX7) (T := TX7) (N := 18) hx hb hts iX7_judges_7 hown hK hP 0 rfl rfl 0 (Nat.le_of_ble_eq_true rfl) (hts (.fieldLink RX7 7 "DeadTimeLoopModel" "now" "[J") (List.mem_of_getElem? (i := 2) rfl)) (fun _ h9 => h9) rfl dX7_judges_64 ?_
    refine lv_sipush (v := 650) hx hb dX7_judges_67 (by decide) ?_
    refine ka_lald (D := gD Γ) (cl := vwCl) (tys := gTy Γ) hx hb hK hP 1 1 rfl rfl 650 (by decide) (by decide) (by decide) (v := ((mNow μ) 650)) rfl dX7_judges_70 ?_
    refine lv_lconst (v := 1) hx hb dX7_judges_71 (by decide) ?_
    refine lv_ladd hx hb dX7_judges_72 ?_
    refine ka_last (D := gD Γ) (cl := vwCl) (tys := gTy Γ) hx hb hK hP hD hS 1 1 rfl rfl 650 (by decide) (by decide) (by decide) (wf := modW Γ a b ((vp_updL (vp_updL (mNow μ) 649 0) 650 (((mNow μ) 650) + 1)), (mAside μ), (mKept μ), (mKm μ), (mPar μ), (mParA μ), (mBef μ), (mUm μ), (mLow μ), (mHigh μ), (mNames μ), (mLen μ), (mText μ), (mPath μ), (mIdeal μ), (mSpot μ), (mWhich μ), (mNum μ))) rfl dX7_judges_73 (fun H locs hP hD hS => ?_)
    refine lv_aload_n hx hb dX7_judges_74 rfl (lv_at hl 1 rfl) ?_
    refine va_get (D := gD Γ) (cl := vwCl) (tys := gTy Γ) (ci := 7) (v := .ref (a (b + 1))) (C := RX7) (T := TX7) (N := 18) hx hb hts iX7_judges_7 hown hK hP 0 rfl rfl 0 (Nat.le_of_ble_eq_true rfl) (hts (.fieldLink RX7 7 "DeadTimeLoopModel" "now" "[J") (List.mem_of_getElem? (i := 2) rfl)) (fun _ h9 => h9) rfl dX7_judges_75 ?_
    refine lv_sipush (v := 648) hx hb dX7_judges_78 (by decide) ?_
    refine ka_lald (D := gD Γ) (cl := vwCl) (tys := gTy Γ) hx hb hK hP 1 1 rfl rfl 648 (by decide) (by decide) (by decide) (v := ((mNow μ) 648)) rfl dX7_judges_81 ?_
    refine lv_lconst (v := 0) hx hb dX7_judges_82 (by decide) ?_
    refine W.lcmp hx hb dX7_judges_83 ?_
    refine lv_if_ne (tgt := 115) hx hb dX7_judges_84 (by decide) (fun c_84 => ?_) (fun c_84 => ?_)
    · -- yes
      have c_84 := mt (lg_cmp_eq _ _).mpr c_84
      refine lv_aload_n hx hb dX7_judges_115 rfl (lv_at hl 1 rfl) ?_
      refine va_get (D := gD Γ) (cl := vwCl) (tys := gTy Γ) (ci := 7) (v := .ref (a (b + 1))) (C := RX7) (T := TX7) (N := 18) hx hb hts iX7_judges_7 hown hK hP 0 rfl rfl 0 (Nat.le_of_ble_eq_true rfl) (hts (.fieldLink RX7 7 "DeadTimeLoopModel" "now" "[J") (List.mem_of_getElem? (i := 2) rfl)) (fun _ h9 => h9) rfl dX7_judges_116 ?_
      refine lv_sipush (v := 650) hx hb dX7_judges_119 (by decide) ?_
      refine ka_lald (D := gD Γ) (cl := vwCl) (tys := gTy Γ) hx hb hK hP 1 1 rfl rfl 650 (by decide) (by decide) (by decide) (v := (((mNow μ) 650) + 1)) rfl dX7_judges_122 ?_
      refine lv_ldc2 hx hb hown (hts (.constantLong RX7 150 (2)) (List.mem_of_getElem? (i := 3) rfl)) dX7_judges_123 ?_
      refine lv_aload_n hx hb dX7_judges_126 rfl (lv_at hl 1 rfl) ?_
      refine va_get (D := gD Γ) (cl := vwCl) (tys := gTy Γ) (ci := 7) (v := .ref (a (b + 4))) (C := RX7) (T := TX7) (N := 18) hx hb hts iX7_judges_7 hown hK hP 0 rfl rfl 4 (Nat.le_of_ble_eq_true rfl) (hts (.fieldLink RX7 19 "DeadTimeLoopModel" "par" "[I") (List.mem_of_getElem? (i := 1) rfl)) (fun _ h9 => h9) rfl dX7_judges_127 ?_
      refine lv_bipush (v := 13) hx hb dX7_judges_130 (by decide) ?_
      refine ka_iald (D := gD Γ) (cl := vwCl) (tys := gTy Γ) hx hb hK hP 4 0 rfl rfl 13 (by decide) (by decide) (by decide) (v := ((mPar μ) 13)) rfl dX7_judges_132 ?_
      refine lv_i2l (v := ((mPar μ) 13).toInt64) hx hb dX7_judges_133 rfl ?_
      refine lv_lmul hx hb dX7_judges_134 ?_
      refine W.lcmp hx hb dX7_judges_135 ?_
      refine lv_if_lt (tgt := 143) hx hb dX7_judges_136 (by decide) (fun c_136 => ?_) (fun c_136 => ?_)
      · -- yes
        have c_136 := (lg_cmp_lt _ _).mp c_136
        refine lv_iconst (v := 0) hx hb dX7_judges_143 (by decide) ?_
        refine lv_istore (lv' := [(4, .int 0), (3, .int 0), (0, .ref (a b)), (1, .long mis)]) hx hb dX7_judges_144 hl (by decide) rfl (fun ls hl => ?_)
        refine lv_iload hx hb dX7_judges_146 (lv_at hl 0 rfl) ?_
        refine lv_if_eq (tgt := 187) hx hb dX7_judges_148 (by decide) (fun _ => ?_) (fun c => (c (by decide)).elim)
        exact re_v hQ ha hx hb hr hlk hAe hP hS dX7_judges_187 (by simp only [mJud, mJud0, mJudB, mJud1, mJudT, mJud2, mPut_now, c_13, c_84, c_136, if_true, if_false, i32_10])
      · -- no
        have c_136 := mt (lg_cmp_lt _ _).mpr c_136
        refine lv_iconst (v := 1) hx hb dX7_judges_139 (by decide) ?_
        refine lv_goto (tgt := 144) hx hb dX7_judges_140 (by decide) ?_
        refine lv_istore (lv' := [(4, .int 1), (3, .int 0), (0, .ref (a b)), (1, .long mis)]) hx hb dX7_judges_144 hl (by decide) rfl (fun ls hl => ?_)
        refine lv_iload hx hb dX7_judges_146 (lv_at hl 0 rfl) ?_
        refine lv_if_eq (tgt := 187) hx hb dX7_judges_148 (by decide) (fun c => absurd c (by decide)) (fun _ => ?_)
        refine lv_aload_n hx hb dX7_judges_151 rfl (lv_at hl 2 rfl) ?_
        refine va_get (D := gD Γ) (cl := vwCl) (tys := gTy Γ) (ci := 7) (v := .ref (a (b + 1))) (C := RX7) (T := TX7) (N := 18) hx hb hts iX7_judges_7 hown hK hP 0 rfl rfl 0 (Nat.le_of_ble_eq_true rfl) (hts (.fieldLink RX7 7 "DeadTimeLoopModel" "now" "[J") (List.mem_of_getElem? (i := 2) rfl)) (fun _ h9 => h9) rfl dX7_judges_152 ?_
        refine lv_sipush (v := 648) hx hb dX7_judges_155 (by decide) ?_
        refine lv_lconst (v := 1) hx hb dX7_judges_158 (by decide) ?_
        refine lv_aload_n hx hb dX7_judges_159 rfl (lv_at hl 2 rfl) ?_
        refine va_get (D := gD Γ) (cl := vwCl) (tys := gTy Γ) (ci := 7) (v := .ref (a (b + 1))) (C := RX7) (T := TX7) (N := 18) hx hb hts iX7_judges_7 hown hK hP 0 rfl rfl 0 (Nat.le_of_ble_eq_true rfl) (hts (.fieldLink RX7 7 "DeadTimeLoopModel" "now" "[J") (List.mem_of_getElem? (i := 2) rfl)) (fun _ h9 => h9) rfl dX7_judges_160 ?_
        refine lv_sipush (v := 648) hx hb dX7_judges_163 (by decide) ?_
        refine ka_lald (D := gD Γ) (cl := vwCl) (tys := gTy Γ) hx hb hK hP 1 1 rfl rfl 648 (by decide) (by decide) (by decide) (v := ((mNow μ) 648)) rfl dX7_judges_166 ?_
        refine lv_lsub hx hb dX7_judges_167 ?_
        refine ka_last (D := gD Γ) (cl := vwCl) (tys := gTy Γ) hx hb hK hP hD hS 1 1 rfl rfl 648 (by decide) (by decide) (by decide) (wf := modW Γ a b ((vp_updL (vp_updL (vp_updL (mNow μ) 649 0) 650 (((mNow μ) 650) + 1)) 648 (1 - ((mNow μ) 648))), (mAside μ), (mKept μ), (mKm μ), (mPar μ), (mParA μ), (mBef μ), (mUm μ), (mLow μ), (mHigh μ), (mNames μ), (mLen μ), (mText μ), (mPath μ), (mIdeal μ), (mSpot μ), (mWhich μ), (mNum μ))) rfl dX7_judges_168 (fun H locs hP hD hS => ?_)
        refine lv_aload_n hx hb dX7_judges_169 rfl (lv_at hl 2 rfl) ?_
        refine va_get (D := gD Γ) (cl := vwCl) (tys := gTy Γ) (ci := 7) (v := .ref (a (b + 1))) (C := RX7) (T := TX7) (N := 18) hx hb hts iX7_judges_7 hown hK hP 0 rfl rfl 0 (Nat.le_of_ble_eq_true rfl) (hts (.fieldLink RX7 7 "DeadTimeLoopModel" "now" "[J") (List.mem_of_getElem? (i := 2) rfl)) (fun _ h9 => h9) rfl dX7_judges_170 ?_
        refine lv_sipush (v := 649) hx hb dX7_judges_173 (by decide) ?_
        refine lv_lconst (v := 0) hx hb dX7_judges_176 (by decide) ?_
        refine ka_last (D := gD Γ) (cl := vwCl) (tys := gTy Γ) hx hb hK hP hD hS 1 1 rfl rfl 649 (by decide) (by decide) (by decide) (wf := modW Γ a b ((vp_updL (vp_updL (vp_updL (vp_updL (mNow μ) 649 0) 650 (((mNow μ) 650) + 1)) 648 (1 - ((mNow μ) 648))) 649 0), (mAside μ), (mKept μ), (mKm μ), (mPar μ), (mParA μ), (mBef μ), (mUm μ), (mLow μ), (mHigh μ), (mNames μ), (mLen μ), (mText μ), (mPath μ), (mIdeal μ), (mSpot μ), (mWhich μ), (mNum μ))) rfl dX7_judges_177 (fun H locs hP hD hS => ?_)
        refine lv_aload_n hx hb dX7_judges_178 rfl (lv_at hl 2 rfl) ?_
        refine va_get (D := gD Γ) (cl := vwCl) (tys := gTy Γ) (ci := 7) (v := .ref (a (b + 1))) (C := RX7) (T := TX7) (N := 18) hx hb hts iX7_judges_7 hown hK hP 0 rfl rfl 0 (Nat.le_of_ble_eq_true rfl) (hts (.fieldLink RX7 7 "DeadTimeLoopModel" "now" "[J") (List.mem_of_getElem? (i := 2) rfl)) (fun _ h9 => h9) rfl dX7_judges_179 ?_
        refine lv_sipush (v := 650) hx hb dX7_judges_182 (by decide) ?_
        refine lv_lconst (v := 0) hx hb dX7_judges_185 (by decide) ?_
        refine ka_last (D := gD Γ) (cl := vwCl) (tys := gTy Γ) hx hb hK hP hD hS 1 1 rfl rfl 650 (by decide) (by decide) (by decide) (wf := modW Γ a b ((vp_updL (vp_updL (vp_updL (vp_updL (vp_updL (mNow μ) 649 0) 650 (((mNow μ) 650) + 1)) 648 (1 - ((mNow μ) 648))) 649 0) 650 0), (mAside μ), (mKept μ), (mKm μ), (mPar μ), (mParA μ), (mBef μ), (mUm μ), (mLow μ), (mHigh μ), (mNames μ), (mLen μ), (mText μ), (mPath μ), (mIdeal μ), (mSpot μ), (mWhich μ), (mNum μ))) rfl dX7_judges_186 (fun H locs hP hD hS => ?_)
        exact re_v hQ ha hx hb hr hlk hAe hP hS dX7_judges_187 (by simp only [mJud, mJud0, mJudB, mJud1, mJudT, mJud2, mPut_now, c_13, c_84, c_136, if_true, if_false, i32_10])
    · -- no
      have c_84 := (lg_cmp_eq _ _).mp c_84
      refine lv_aload_n hx hb dX7_judges_87 rfl (lv_at hl 1 rfl) ?_
      refine va_get (D := gD Γ) (cl := vwCl) (tys := gTy Γ) (ci := 7) (v := .ref (a (b + 1))) (C := RX7) (T := TX7) (N := 18) hx hb hts iX7_judges_7 hown hK hP 0 rfl rfl 0 (Nat.le_of_ble_eq_true rfl) (hts (.fieldLink RX7 7 "DeadTimeLoopModel" "now" "[J") (List.mem_of_getElem? (i := 2) rfl)) (fun _ h9 => h9) rfl dX7_judges_88 ?_
      refine lv_sipush (v := 649) hx hb dX7_judges_91 (by decide) ?_
      refine ka_lald (D := gD Γ) (cl := vwCl) (tys := gTy Γ) hx hb hK hP 1 1 rfl rfl 649 (by decide) (by decide) (by decide) (v := 0) rfl dX7_judges_94 ?_
      refine lv_aload_n hx hb dX7_judges_95 rfl (lv_at hl 1 rfl) ?_
      refine va_get (D := gD Γ) (cl := vwCl) (tys := gTy Γ) (ci := 7) (v := .ref (a (b + 4))) (C := RX7) (T := TX7) (N := 18) hx hb hts iX7_judges_7 hown hK hP 0 rfl rfl 4 (Nat.le_of_ble_eq_true rfl) (hts (.fieldLink RX7 19 "DeadTimeLoopModel" "par" "[I") (List.mem_of_getElem? (i := 1) rfl)) (fun _ h9 => h9) rfl dX7_judges_96 ?_
      refine lv_bipush (v := 13) hx hb dX7_judges_99 (by decide) ?_
      refine ka_iald (D := gD Γ) (cl := vwCl) (tys := gTy Γ) hx hb hK hP 4 0 rfl rfl 13 (by decide) (by decide) (by decide) (v := ((mPar μ) 13)) rfl dX7_judges_101 ?_
      refine lv_i2l (v := ((mPar μ) 13).toInt64) hx hb dX7_judges_102 rfl ?_
      refine W.lcmp hx hb dX7_judges_103 ?_
      refine lv_if_lt (tgt := 111) hx hb dX7_judges_104 (by decide) (fun c_104 => ?_) (fun c_104 => ?_)
      · -- yes
        have c_104 := (lg_cmp_lt _ _).mp c_104
        refine lv_iconst (v := 0) hx hb dX7_judges_111 (by decide) ?_
        refine lv_goto (tgt := 144) hx hb dX7_judges_112 (by decide) ?_
        refine lv_istore (lv' := [(4, .int 0), (3, .int 0), (0, .ref (a b)), (1, .long mis)]) hx hb dX7_judges_144 hl (by decide) rfl (fun ls hl => ?_)
        refine lv_iload hx hb dX7_judges_146 (lv_at hl 0 rfl) ?_
        refine lv_if_eq (tgt := 187) hx hb dX7_judges_148 (by decide) (fun _ => ?_) (fun c => (c (by decide)).elim)
        exact re_v hQ ha hx hb hr hlk hAe hP hS dX7_judges_187 (by simp only [mJud, mJud0, mJudB, mJud1, mJudT, mJud2, mPut_now, c_13, c_84, c_104, if_true, if_false, i32_10])
      · -- no
        have c_104 := mt (lg_cmp_lt _ _).mpr c_104
        refine lv_iconst (v := 1) hx hb dX7_judges_107 (by decide) ?_
        refine lv_goto (tgt := 144) hx hb dX7_judges_108 (by decide) ?_
        refine lv_istore (lv' := [(4, .int 1), (3, .int 0), (0, .ref (a b)), (1, .long mis)]) hx hb dX7_judges_144 hl (by decide) rfl (fun ls hl => ?_)
        refine lv_iload hx hb dX7_judges_146 (lv_at hl 0 rfl) ?_
        refine lv_if_eq (tgt := 187) hx hb dX7_judges_148 (by decide) (fun c => absurd c (by decide)) (fun _ => ?_)
        refine lv_aload_n hx hb dX7_judges_151 rfl (lv_at hl 2 rfl) ?_
        refine va_get (D := gD Γ) (cl := vwCl) (tys := gTy Γ) (ci := 7) (v := .ref (a (b + 1))) (C := RX7) (T := TX7) (N := 18) hx hb hts iX7_judges_7 hown hK hP 0 rfl rfl 0 (Nat.le_of_ble_eq_true rfl) (hts (.fieldLink RX7 7 "DeadTimeLoopModel" "now" "[J") (List.mem_of_getElem? (i := 2) rfl)) (fun _ h9 => h9) rfl dX7_judges_152 ?_
        refine lv_sipush (v := 648) hx hb dX7_judges_155 (by decide) ?_
        refine lv_lconst (v := 1) hx hb dX7_judges_158 (by decide) ?_
        refine lv_aload_n hx hb dX7_judges_159 rfl (lv_at hl 2 rfl) ?_
        refine va_get (D := gD Γ) (cl := vwCl) (tys := gTy Γ) (ci := 7) (v := .ref (a (b + 1))) (C := RX7) (T := TX7) (N := 18) hx hb hts iX7_judges_7 hown hK hP 0 rfl rfl 0 (Nat.le_of_ble_eq_true rfl) (hts (.fieldLink RX7 7 "DeadTimeLoopModel" "now" "[J") (List.mem_of_getElem? (i := 2) rfl)) (fun _ h9 => h9) rfl dX7_judges_160 ?_
        refine lv_sipush (v := 648) hx hb dX7_judges_163 (by decide) ?_
        refine ka_lald (D := gD Γ) (cl := vwCl) (tys := gTy Γ) hx hb hK hP 1 1 rfl rfl 648 (by decide) (by decide) (by decide) (v := ((mNow μ) 648)) rfl dX7_judges_166 ?_
        refine lv_lsub hx hb dX7_judges_167 ?_
        refine ka_last (D := gD Γ) (cl := vwCl) (tys := gTy Γ) hx hb hK hP hD hS 1 1 rfl rfl 648 (by decide) (by decide) (by decide) (wf := modW Γ a b ((vp_updL (vp_updL (vp_updL (mNow μ) 649 0) 650 (((mNow μ) 650) + 1)) 648 (1 - ((mNow μ) 648))), (mAside μ), (mKept μ), (mKm μ), (mPar μ), (mParA μ), (mBef μ), (mUm μ), (mLow μ), (mHigh μ), (mNames μ), (mLen μ), (mText μ), (mPath μ), (mIdeal μ), (mSpot μ), (mWhich μ), (mNum μ))) rfl dX7_judges_168 (fun H locs hP hD hS => ?_)
        refine lv_aload_n hx hb dX7_judges_169 rfl (lv_at hl 2 rfl) ?_
        refine va_get (D := gD Γ) (cl := vwCl) (tys := gTy Γ) (ci := 7) (v := .ref (a (b + 1))) (C := RX7) (T := TX7) (N := 18) hx hb hts iX7_judges_7 hown hK hP 0 rfl rfl 0 (Nat.le_of_ble_eq_true rfl) (hts (.fieldLink RX7 7 "DeadTimeLoopModel" "now" "[J") (List.mem_of_getElem? (i := 2) rfl)) (fun _ h9 => h9) rfl dX7_judges_170 ?_
        refine lv_sipush (v := 649) hx hb dX7_judges_173 (by decide) ?_
        refine lv_lconst (v := 0) hx hb dX7_judges_176 (by decide) ?_
        refine ka_last (D := gD Γ) (cl := vwCl) (tys := gTy Γ) hx hb hK hP hD hS 1 1 rfl rfl 649 (by decide) (by decide) (by decide) (wf := modW Γ a b ((vp_updL (vp_updL (vp_updL (vp_updL (mNow μ) 649 0) 650 (((mNow μ) 650) + 1)) 648 (1 - ((mNow μ) 648))) 649 0), (mAside μ), (mKept μ), (mKm μ), (mPar μ), (mParA μ), (mBef μ), (mUm μ), (mLow μ), (mHigh μ), (mNames μ), (mLen μ), (mText μ), (mPath μ), (mIdeal μ), (mSpot μ), (mWhich μ), (mNum μ))) rfl dX7_judges_177 (fun H locs hP hD hS => ?_)
        refine lv_aload_n hx hb dX7_judges_178 rfl (lv_at hl 2 rfl) ?_
        refine va_get (D := gD Γ) (cl := vwCl) (tys := gTy Γ) (ci := 7) (v := .ref (a (b + 1))) (C := RX7) (T := TX7) (N := 18) hx hb hts iX7_judges_7 hown hK hP 0 rfl rfl 0 (Nat.le_of_ble_eq_true rfl) (hts (.fieldLink RX7 7 "DeadTimeLoopModel" "now" "[J") (List.mem_of_getElem? (i := 2) rfl)) (fun _ h9 => h9) rfl dX7_judges_179 ?_
        refine lv_sipush (v := 650) hx hb dX7_judges_182 (by decide) ?_
        refine lv_lconst (v := 0) hx hb dX7_judges_185 (by decide) ?_
        refine ka_last (D := gD Γ) (cl := vwCl) (tys := gTy Γ) hx hb hK hP hD hS 1 1 rfl rfl 650 (by decide) (by decide) (by decide) (wf := modW Γ a b ((vp_updL (vp_updL (vp_updL (vp_updL (vp_updL (mNow μ) 649 0) 650 (((mNow μ) 650) + 1)) 648 (1 - ((mNow μ) 648))) 649 0) 650 0), (mAside μ), (mKept μ), (mKm μ), (mPar μ), (mParA μ), (mBef μ), (mUm μ), (mLow μ), (mHigh μ), (mNames μ), (mLen μ), (mText μ), (mPath μ), (mIdeal μ), (mSpot μ), (mWhich μ), (mNum μ))) rfl dX7_judges_186 (fun H locs hP hD hS => ?_)
        exact re_v hQ ha hx hb hr hlk hAe hP hS dX7_judges_187 (by simp only [mJud, mJud0, mJudB, mJud1, mJudT, mJud2, mPut_now, c_13, c_84, c_104, if_true, if_false, i32_10])
  · -- no
    have c_13 := mt (lg_cmp_le _ _).mpr c_13
    refine lv_iconst (v := 1) hx hb dX7_judges_16 (by decide) ?_
    refine lv_goto (tgt := 21) hx hb dX7_judges_17 (by decide) ?_
    refine lv_istore_n (lv' := [(3, .int 1), (0, .ref (a b)), (1, .long mis)]) hx hb dX7_judges_21 rfl hl (by decide) rfl (fun ls hl => ?_)
    refine lv_aload_n hx hb dX7_judges_22 rfl (lv_at hl 1 rfl) ?_
    refine va_get (D := gD Γ) (cl := vwCl) (tys := gTy Γ) (ci := 7) (v := .ref (a (b + 1))) (C := RX7) (T := TX7) (N := 18) hx hb hts iX7_judges_7 hown hK hP 0 rfl rfl 0 (Nat.le_of_ble_eq_true rfl) (hts (.fieldLink RX7 7 "DeadTimeLoopModel" "now" "[J") (List.mem_of_getElem? (i := 2) rfl)) (fun _ h9 => h9) rfl dX7_judges_23 ?_
    refine lv_sipush (v := 649) hx hb dX7_judges_26 (by decide) ?_
    refine lv_iload_n hx hb dX7_judges_29 rfl (lv_at hl 0 rfl) ?_
    refine lv_if_eq (tgt := 46) hx hb dX7_judges_30 (by decide) (fun c => absurd c (by decide)) (fun _ => ?_)
    refine lv_aload_n hx hb dX7_judges_33 rfl (lv_at hl 1 rfl) ?_
    refine va_get (D := gD Γ) (cl := vwCl) (tys := gTy Γ) (ci := 7) (v := .ref (a (b + 1))) (C := RX7) (T := TX7) (N := 18) hx hb hts iX7_judges_7 hown hK hP 0 rfl rfl 0 (Nat.le_of_ble_eq_true rfl) (hts (.fieldLink RX7 7 "DeadTimeLoopModel" "now" "[J") (List.mem_of_getElem? (i := 2) rfl)) (fun _ h9 => h9) rfl dX7_judges_34 ?_
    refine lv_sipush (v := 649) hx hb dX7_judges_37 (by decide) ?_
    refine ka_lald (D := gD Γ) (cl := vwCl) (tys := gTy Γ) hx hb hK hP 1 1 rfl rfl 649 (by decide) (by decide) (by decide) (v := ((mNow μ) 649)) rfl dX7_judges_40 ?_
    refine lv_lconst (v := 1) hx hb dX7_judges_41 (by decide) ?_
    refine lv_ladd hx hb dX7_judges_42 ?_
    refine lv_goto (tgt := 47) hx hb dX7_judges_43 (by decide) ?_
    refine ka_last (D := gD Γ) (cl := vwCl) (tys := gTy Γ) hx hb hK hP hD hS 1 1 rfl rfl 649 (by decide) (by decide) (by decide) (wf := modW Γ a b ((vp_updL (mNow μ) 649 (((mNow μ) 649) + 1)), (mAside μ), (mKept μ), (mKm μ), (mPar μ), (mParA μ), (mBef μ), (mUm μ), (mLow μ), (mHigh μ), (mNames μ), (mLen μ), (mText μ), (mPath μ), (mIdeal μ), (mSpot μ), (mWhich μ), (mNum μ))) rfl dX7_judges_47 (fun H locs hP hD hS => ?_)
    refine lv_aload_n hx hb dX7_judges_48 rfl (lv_at hl 1 rfl) ?_
    refine va_get (D := gD Γ) (cl := vwCl) (tys := gTy Γ) (ci := 7) (v := .ref (a (b + 1))) (C := RX7) (T := TX7) (N := 18) hx hb hts iX7_judges_7 hown hK hP 0 rfl rfl 0 (Nat.le_of_ble_eq_true rfl) (hts (.fieldLink RX7 7 "DeadTimeLoopModel" "now" "[J") (List.mem_of_getElem? (i := 2) rfl)) (fun _ h9 => h9) rfl dX7_judges_49 ?_
    refine lv_sipush (v := 650) hx hb dX7_judges_52 (by decide) ?_
    refine lv_iload_n hx hb dX7_judges_55 rfl (lv_at hl 0 rfl) ?_
    refine lv_if_eq (tgt := 63) hx hb dX7_judges_56 (by decide) (fun c => absurd c (by decide)) (fun _ => ?_)
    refine lv_lconst (v := 0) hx hb dX7_judges_59 (by decide) ?_
    refine lv_goto (tgt := 73) hx hb dX7_judges_60 (by decide) ?_
    refine ka_last (D := gD Γ) (cl := vwCl) (tys := gTy Γ) hx hb hK hP hD hS 1 1 rfl rfl 650 (by decide) (by decide) (by decide) (wf := modW Γ a b ((vp_updL (vp_updL (mNow μ) 649 (((mNow μ) 649) + 1)) 650 0), (mAside μ), (mKept μ), (mKm μ), (mPar μ), (mParA μ), (mBef μ), (mUm μ), (mLow μ), (mHigh μ), (mNames μ), (mLen μ), (mText μ), (mPath μ), (mIdeal μ), (mSpot μ), (mWhich μ), (mNum μ))) rfl dX7_judges_73 (fun H locs hP hD hS => ?_)
    refine lv_aload_n hx hb dX7_judges_74 rfl (lv_at hl 1 rfl) ?_
    refine va_get (D := gD Γ) (cl := vwCl) (tys := gTy Γ) (ci := 7) (v := .ref (a (b + 1))) (C := RX7) (T := TX7) (N := 18) hx hb hts iX7_judges_7 hown hK hP 0 rfl rfl 0 (Nat.le_of_ble_eq_true rfl) (hts (.fieldLink RX7 7 "DeadTimeLoopModel" "now" "[J") (List.mem_of_getElem? (i := 2) rfl)) (fun _ h9 => h9) rfl dX7_judges_75 ?_
    refine lv_sipush (v := 648) hx hb dX7_judges_78 (by decide) ?_
    refine ka_lald (D := gD Γ) (cl := vwCl) (tys := gTy Γ) hx hb hK hP 1 1 rfl rfl 648 (by decide) (by decide) (by decide) (v := ((mNow μ) 648)) rfl dX7_judges_81 ?_
    refine lv_lconst (v := 0) hx hb dX7_judges_82 (by decide) ?_
    refine W.lcmp hx hb dX7_judges_83 ?_
    refine lv_if_ne (tgt := 115) hx hb dX7_judges_84 (by decide) (fun c_84b => ?_) (fun c_84b => ?_)
    · -- yes
      have c_84b := mt (lg_cmp_eq _ _).mpr c_84b
      refine lv_aload_n hx hb dX7_judges_115 rfl (lv_at hl 1 rfl) ?_
      refine va_get (D := gD Γ) (cl := vwCl) (tys := gTy Γ) (ci := 7) (v := .ref (a (b + 1))) (C := RX7) (T := TX7) (N := 18) hx hb hts iX7_judges_7 hown hK hP 0 rfl rfl 0 (Nat.le_of_ble_eq_true rfl) (hts (.fieldLink RX7 7 "DeadTimeLoopModel" "now" "[J") (List.mem_of_getElem? (i := 2) rfl)) (fun _ h9 => h9) rfl dX7_judges_116 ?_
      refine lv_sipush (v := 650) hx hb dX7_judges_119 (by decide) ?_
      refine ka_lald (D := gD Γ) (cl := vwCl) (tys := gTy Γ) hx hb hK hP 1 1 rfl rfl 650 (by decide) (by decide) (by decide) (v := 0) rfl dX7_judges_122 ?_
      refine lv_ldc2 hx hb hown (hts (.constantLong RX7 150 (2)) (List.mem_of_getElem? (i := 3) rfl)) dX7_judges_123 ?_
      refine lv_aload_n hx hb dX7_judges_126 rfl (lv_at hl 1 rfl) ?_
      refine va_get (D := gD Γ) (cl := vwCl) (tys := gTy Γ) (ci := 7) (v := .ref (a (b + 4))) (C := RX7) (T := TX7) (N := 18) hx hb hts iX7_judges_7 hown hK hP 0 rfl rfl 4 (Nat.le_of_ble_eq_true rfl) (hts (.fieldLink RX7 19 "DeadTimeLoopModel" "par" "[I") (List.mem_of_getElem? (i := 1) rfl)) (fun _ h9 => h9) rfl dX7_judges_127 ?_
      refine lv_bipush (v := 13) hx hb dX7_judges_130 (by decide) ?_
      refine ka_iald (D := gD Γ) (cl := vwCl) (tys := gTy Γ) hx hb hK hP 4 0 rfl rfl 13 (by decide) (by decide) (by decide) (v := ((mPar μ) 13)) rfl dX7_judges_132 ?_
      refine lv_i2l (v := ((mPar μ) 13).toInt64) hx hb dX7_judges_133 rfl ?_
      refine lv_lmul hx hb dX7_judges_134 ?_
      refine W.lcmp hx hb dX7_judges_135 ?_
      refine lv_if_lt (tgt := 143) hx hb dX7_judges_136 (by decide) (fun c_136b => ?_) (fun c_136b => ?_)
      · -- yes
        have c_136b := (lg_cmp_lt _ _).mp c_136b
        refine lv_iconst (v := 0) hx hb dX7_judges_143 (by decide) ?_
        refine lv_istore (lv' := [(4, .int 0), (3, .int 1), (0, .ref (a b)), (1, .long mis)]) hx hb dX7_judges_144 hl (by decide) rfl (fun ls hl => ?_)
        refine lv_iload hx hb dX7_judges_146 (lv_at hl 0 rfl) ?_
        refine lv_if_eq (tgt := 187) hx hb dX7_judges_148 (by decide) (fun _ => ?_) (fun c => (c (by decide)).elim)
        exact re_v hQ ha hx hb hr hlk hAe hP hS dX7_judges_187 (by simp only [mJud, mJud0, mJudB, mJud1, mJudT, mJud2, mPut_now, c_13, c_84b, c_136b, if_true, if_false, i32_10])
      · -- no
        have c_136b := mt (lg_cmp_lt _ _).mpr c_136b
        refine lv_iconst (v := 1) hx hb dX7_judges_139 (by decide) ?_
        refine lv_goto (tgt := 144) hx hb dX7_judges_140 (by decide) ?_
        refine lv_istore (lv' := [(4, .int 1), (3, .int 1), (0, .ref (a b)), (1, .long mis)]) hx hb dX7_judges_144 hl (by decide) rfl (fun ls hl => ?_)
        refine lv_iload hx hb dX7_judges_146 (lv_at hl 0 rfl) ?_
        refine lv_if_eq (tgt := 187) hx hb dX7_judges_148 (by decide) (fun c => absurd c (by decide)) (fun _ => ?_)
        refine lv_aload_n hx hb dX7_judges_151 rfl (lv_at hl 2 rfl) ?_
        refine va_get (D := gD Γ) (cl := vwCl) (tys := gTy Γ) (ci := 7) (v := .ref (a (b + 1))) (C := RX7) (T := TX7) (N := 18) hx hb hts iX7_judges_7 hown hK hP 0 rfl rfl 0 (Nat.le_of_ble_eq_true rfl) (hts (.fieldLink RX7 7 "DeadTimeLoopModel" "now" "[J") (List.mem_of_getElem? (i := 2) rfl)) (fun _ h9 => h9) rfl dX7_judges_152 ?_
        refine lv_sipush (v := 648) hx hb dX7_judges_155 (by decide) ?_
        refine lv_lconst (v := 1) hx hb dX7_judges_158 (by decide) ?_
        refine lv_aload_n hx hb dX7_judges_159 rfl (lv_at hl 2 rfl) ?_
        refine va_get (D := gD Γ) (cl := vwCl) (tys := gTy Γ) (ci := 7) (v := .ref (a (b + 1))) (C := RX7) (T := TX7) (N := 18) hx hb hts iX7_judges_7 hown hK hP 0 rfl rfl 0 (Nat.le_of_ble_eq_true rfl) (hts (.fieldLink RX7 7 "DeadTimeLoopModel" "now" "[J") (List.mem_of_getElem? (i := 2) rfl)) (fun _ h9 => h9) rfl dX7_judges_160 ?_
        refine lv_sipush (v := 648) hx hb dX7_judges_163 (by decide) ?_
        refine ka_lald (D := gD Γ) (cl := vwCl) (tys := gTy Γ) hx hb hK hP 1 1 rfl rfl 648 (by decide) (by decide) (by decide) (v := ((mNow μ) 648)) rfl dX7_judges_166 ?_
        refine lv_lsub hx hb dX7_judges_167 ?_
        refine ka_last (D := gD Γ) (cl := vwCl) (tys := gTy Γ) hx hb hK hP hD hS 1 1 rfl rfl 648 (by decide) (by decide) (by decide) (wf := modW Γ a b ((vp_updL (vp_updL (vp_updL (mNow μ) 649 (((mNow μ) 649) + 1)) 650 0) 648 (1 - ((mNow μ) 648))), (mAside μ), (mKept μ), (mKm μ), (mPar μ), (mParA μ), (mBef μ), (mUm μ), (mLow μ), (mHigh μ), (mNames μ), (mLen μ), (mText μ), (mPath μ), (mIdeal μ), (mSpot μ), (mWhich μ), (mNum μ))) rfl dX7_judges_168 (fun H locs hP hD hS => ?_)
        refine lv_aload_n hx hb dX7_judges_169 rfl (lv_at hl 2 rfl) ?_
        refine va_get (D := gD Γ) (cl := vwCl) (tys := gTy Γ) (ci := 7) (v := .ref (a (b + 1))) (C := RX7) (T := TX7) (N := 18) hx hb hts iX7_judges_7 hown hK hP 0 rfl rfl 0 (Nat.le_of_ble_eq_true rfl) (hts (.fieldLink RX7 7 "DeadTimeLoopModel" "now" "[J") (List.mem_of_getElem? (i := 2) rfl)) (fun _ h9 => h9) rfl dX7_judges_170 ?_
        refine lv_sipush (v := 649) hx hb dX7_judges_173 (by decide) ?_
        refine lv_lconst (v := 0) hx hb dX7_judges_176 (by decide) ?_
        refine ka_last (D := gD Γ) (cl := vwCl) (tys := gTy Γ) hx hb hK hP hD hS 1 1 rfl rfl 649 (by decide) (by decide) (by decide) (wf := modW Γ a b ((vp_updL (vp_updL (vp_updL (vp_updL (mNow μ) 649 (((mNow μ) 649) + 1)) 650 0) 648 (1 - ((mNow μ) 648))) 649 0), (mAside μ), (mKept μ), (mKm μ), (mPar μ), (mParA μ), (mBef μ), (mUm μ), (mLow μ), (mHigh μ), (mNames μ), (mLen μ), (mText μ), (mPath μ), (mIdeal μ), (mSpot μ), (mWhich μ), (mNum μ))) rfl dX7_judges_177 (fun H locs hP hD hS => ?_)
        refine lv_aload_n hx hb dX7_judges_178 rfl (lv_at hl 2 rfl) ?_
        refine va_get (D := gD Γ) (cl := vwCl) (tys := gTy Γ) (ci := 7) (v := .ref (a (b + 1))) (C := RX7) (T := TX7) (N := 18) hx hb hts iX7_judges_7 hown hK hP 0 rfl rfl 0 (Nat.le_of_ble_eq_true rfl) (hts (.fieldLink RX7 7 "DeadTimeLoopModel" "now" "[J") (List.mem_of_getElem? (i := 2) rfl)) (fun _ h9 => h9) rfl dX7_judges_179 ?_
        refine lv_sipush (v := 650) hx hb dX7_judges_182 (by decide) ?_
        refine lv_lconst (v := 0) hx hb dX7_judges_185 (by decide) ?_
        refine ka_last (D := gD Γ) (cl := vwCl) (tys := gTy Γ) hx hb hK hP hD hS 1 1 rfl rfl 650 (by decide) (by decide) (by decide) (wf := modW Γ a b ((vp_updL (vp_updL (vp_updL (vp_updL (vp_updL (mNow μ) 649 (((mNow μ) 649) + 1)) 650 0) 648 (1 - ((mNow μ) 648))) 649 0) 650 0), (mAside μ), (mKept μ), (mKm μ), (mPar μ), (mParA μ), (mBef μ), (mUm μ), (mLow μ), (mHigh μ), (mNames μ), (mLen μ), (mText μ), (mPath μ), (mIdeal μ), (mSpot μ), (mWhich μ), (mNum μ))) rfl dX7_judges_186 (fun H locs hP hD hS => ?_)
        exact re_v hQ ha hx hb hr hlk hAe hP hS dX7_judges_187 (by simp only [mJud, mJud0, mJudB, mJud1, mJudT, mJud2, mPut_now, c_13, c_84b, c_136b, if_true, if_false, i32_10])
    · -- no
      have c_84b := (lg_cmp_eq _ _).mp c_84b
      refine lv_aload_n hx hb dX7_judges_87 rfl (lv_at hl 1 rfl) ?_
      refine va_get (D := gD Γ) (cl := vwCl) (tys := gTy Γ) (ci := 7) (v := .ref (a (b + 1))) (C := RX7) (T := TX7) (N := 18) hx hb hts iX7_judges_7 hown hK hP 0 rfl rfl 0 (Nat.le_of_ble_eq_true rfl) (hts (.fieldLink RX7 7 "DeadTimeLoopModel" "now" "[J") (List.mem_of_getElem? (i := 2) rfl)) (fun _ h9 => h9) rfl dX7_judges_88 ?_
      refine lv_sipush (v := 649) hx hb dX7_judges_91 (by decide) ?_
      refine ka_lald (D := gD Γ) (cl := vwCl) (tys := gTy Γ) hx hb hK hP 1 1 rfl rfl 649 (by decide) (by decide) (by decide) (v := (((mNow μ) 649) + 1)) rfl dX7_judges_94 ?_
      refine lv_aload_n hx hb dX7_judges_95 rfl (lv_at hl 1 rfl) ?_
      refine va_get (D := gD Γ) (cl := vwCl) (tys := gTy Γ) (ci := 7) (v := .ref (a (b + 4))) (C := RX7) (T := TX7) (N := 18) hx hb hts iX7_judges_7 hown hK hP 0 rfl rfl 4 (Nat.le_of_ble_eq_true rfl) (hts (.fieldLink RX7 19 "DeadTimeLoopModel" "par" "[I") (List.mem_of_getElem? (i := 1) rfl)) (fun _ h9 => h9) rfl dX7_judges_96 ?_
      refine lv_bipush (v := 13) hx hb dX7_judges_99 (by decide) ?_
      refine ka_iald (D := gD Γ) (cl := vwCl) (tys := gTy Γ) hx hb hK hP 4 0 rfl rfl 13 (by decide) (by decide) (by decide) (v := ((mPar μ) 13)) rfl dX7_judges_101 ?_
      refine lv_i2l (v := ((mPar μ) 13).toInt64) hx hb dX7_judges_102 rfl ?_
      refine W.lcmp hx hb dX7_judges_103 ?_
      refine lv_if_lt (tgt := 111) hx hb dX7_judges_104 (by decide) (fun c_104b => ?_) (fun c_104b => ?_)
      · -- yes
        have c_104b := (lg_cmp_lt _ _).mp c_104b
        refine lv_iconst (v := 0) hx hb dX7_judges_111 (by decide) ?_
        refine lv_goto (tgt := 144) hx hb dX7_judges_112 (by decide) ?_
        refine lv_istore (lv' := [(4, .int 0), (3, .int 1), (0, .ref (a b)), (1, .long mis)]) hx hb dX7_judges_144 hl (by decide) rfl (fun ls hl => ?_)
        refine lv_iload hx hb dX7_judges_146 (lv_at hl 0 rfl) ?_
        refine lv_if_eq (tgt := 187) hx hb dX7_judges_148 (by decide) (fun _ => ?_) (fun c => (c (by decide)).elim)
        exact re_v hQ ha hx hb hr hlk hAe hP hS dX7_judges_187 (by simp only [mJud, mJud0, mJudB, mJud1, mJudT, mJud2, mPut_now, c_13, c_84b, c_104b, if_true, if_false, i32_10])
      · -- no
        have c_104b := mt (lg_cmp_lt _ _).mpr c_104b
        refine lv_iconst (v := 1) hx hb dX7_judges_107 (by decide) ?_
        refine lv_goto (tgt := 144) hx hb dX7_judges_108 (by decide) ?_
        refine lv_istore (lv' := [(4, .int 1), (3, .int 1), (0, .ref (a b)), (1, .long mis)]) hx hb dX7_judges_144 hl (by decide) rfl (fun ls hl => ?_)
        refine lv_iload hx hb dX7_judges_146 (lv_at hl 0 rfl) ?_
        refine lv_if_eq (tgt := 187) hx hb dX7_judges_148 (by decide) (fun c => absurd c (by decide)) (fun _ => ?_)
        refine lv_aload_n hx hb dX7_judges_151 rfl (lv_at hl 2 rfl) ?_
        refine va_get (D := gD Γ) (cl := vwCl) (tys := gTy Γ) (ci := 7) (v := .ref (a (b + 1))) (C := RX7) (T := TX7) (N := 18) hx hb hts iX7_judges_7 hown hK hP 0 rfl rfl 0 (Nat.le_of_ble_eq_true rfl) (hts (.fieldLink RX7 7 "DeadTimeLoopModel" "now" "[J") (List.mem_of_getElem? (i := 2) rfl)) (fun _ h9 => h9) rfl dX7_judges_152 ?_
        refine lv_sipush (v := 648) hx hb dX7_judges_155 (by decide) ?_
        refine lv_lconst (v := 1) hx hb dX7_judges_158 (by decide) ?_
        refine lv_aload_n hx hb dX7_judges_159 rfl (lv_at hl 2 rfl) ?_
        refine va_get (D := gD Γ) (cl := vwCl) (tys := gTy Γ) (ci := 7) (v := .ref (a (b + 1))) (C := RX7) (T := TX7) (N := 18) hx hb hts iX7_judges_7 hown hK hP 0 rfl rfl 0 (Nat.le_of_ble_eq_true rfl) (hts (.fieldLink RX7 7 "DeadTimeLoopModel" "now" "[J") (List.mem_of_getElem? (i := 2) rfl)) (fun _ h9 => h9) rfl dX7_judges_160 ?_
        refine lv_sipush (v := 648) hx hb dX7_judges_163 (by decide) ?_
        refine ka_lald (D := gD Γ) (cl := vwCl) (tys := gTy Γ) hx hb hK hP 1 1 rfl rfl 648 (by decide) (by decide) (by decide) (v := ((mNow μ) 648)) rfl dX7_judges_166 ?_
        refine lv_lsub hx hb dX7_judges_167 ?_
        refine ka_last (D := gD Γ) (cl := vwCl) (tys := gTy Γ) hx hb hK hP hD hS 1 1 rfl rfl 648 (by decide) (by decide) (by decide) (wf := modW Γ a b ((vp_updL (vp_updL (vp_updL (mNow μ) 649 (((mNow μ) 649) + 1)) 650 0) 648 (1 - ((mNow μ) 648))), (mAside μ), (mKept μ), (mKm μ), (mPar μ), (mParA μ), (mBef μ), (mUm μ), (mLow μ), (mHigh μ), (mNames μ), (mLen μ), (mText μ), (mPath μ), (mIdeal μ), (mSpot μ), (mWhich μ), (mNum μ))) rfl dX7_judges_168 (fun H locs hP hD hS => ?_)
        refine lv_aload_n hx hb dX7_judges_169 rfl (lv_at hl 2 rfl) ?_
        refine va_get (D := gD Γ) (cl := vwCl) (tys := gTy Γ) (ci := 7) (v := .ref (a (b + 1))) (C := RX7) (T := TX7) (N := 18) hx hb hts iX7_judges_7 hown hK hP 0 rfl rfl 0 (Nat.le_of_ble_eq_true rfl) (hts (.fieldLink RX7 7 "DeadTimeLoopModel" "now" "[J") (List.mem_of_getElem? (i := 2) rfl)) (fun _ h9 => h9) rfl dX7_judges_170 ?_
        refine lv_sipush (v := 649) hx hb dX7_judges_173 (by decide) ?_
        refine lv_lconst (v := 0) hx hb dX7_judges_176 (by decide) ?_
        refine ka_last (D := gD Γ) (cl := vwCl) (tys := gTy Γ) hx hb hK hP hD hS 1 1 rfl rfl 649 (by decide) (by decide) (by decide) (wf := modW Γ a b ((vp_updL (vp_updL (vp_updL (vp_updL (mNow μ) 649 (((mNow μ) 649) + 1)) 650 0) 648 (1 - ((mNow μ) 648))) 649 0), (mAside μ), (mKept μ), (mKm μ), (mPar μ), (mParA μ), (mBef μ), (mUm μ), (mLow μ), (mHigh μ), (mNames μ), (mLen μ), (mText μ), (mPath μ), (mIdeal μ), (mSpot μ), (mWhich μ), (mNum μ))) rfl dX7_judges_177 (fun H locs hP hD hS => ?_)
        refine lv_aload_n hx hb dX7_judges_178 rfl (lv_at hl 2 rfl) ?_
        refine va_get (D := gD Γ) (cl := vwCl) (tys := gTy Γ) (ci := 7) (v := .ref (a (b + 1))) (C := RX7) (T := TX7) (N := 18) hx hb hts iX7_judges_7 hown hK hP 0 rfl rfl 0 (Nat.le_of_ble_eq_true rfl) (hts (.fieldLink RX7 7 "DeadTimeLoopModel" "now" "[J") (List.mem_of_getElem? (i := 2) rfl)) (fun _ h9 => h9) rfl dX7_judges_179 ?_
        refine lv_sipush (v := 650) hx hb dX7_judges_182 (by decide) ?_
        refine lv_lconst (v := 0) hx hb dX7_judges_185 (by decide) ?_
        refine ka_last (D := gD Γ) (cl := vwCl) (tys := gTy Γ) hx hb hK hP hD hS 1 1 rfl rfl 650 (by decide) (by decide) (by decide) (wf := modW Γ a b ((vp_updL (vp_updL (vp_updL (vp_updL (vp_updL (mNow μ) 649 (((mNow μ) 649) + 1)) 650 0) 648 (1 - ((mNow μ) 648))) 649 0) 650 0), (mAside μ), (mKept μ), (mKm μ), (mPar μ), (mParA μ), (mBef μ), (mUm μ), (mLow μ), (mHigh μ), (mNames μ), (mLen μ), (mText μ), (mPath μ), (mIdeal μ), (mSpot μ), (mWhich μ), (mNum μ))) rfl dX7_judges_186 (fun H locs hP hD hS => ?_)
        exact re_v hQ ha hx hb hr hlk hAe hP hS dX7_judges_187 (by simp only [mJud, mJud0, mJudB, mJud1, mJudT, mJud2, mPut_now, c_13, c_84b, c_104b, if_true, if_false, i32_10])
def rm_X7_controls : Room := { frames := 1, cells := 0, slots := 0, locals := 25 }
theorem iX7_controls_7 : ∀ w ∈ u_ws RX7 TX7 18, w ∈ wsX7_controls := fun w h => (List.mem_cons_of_mem _ (List.mem_append_right _ h))
set_option maxHeartbeats 1000000 in
set_option maxRecDepth 100000 in
theorem c_X7_controls (Γ : gT) (l : Launch) (a : Nat → Nat) (b : Nat) (μ : Mst)  : Cv Γ l yX7_controls wsX7_controls rm_X7_controls [.ref (a b)] (modW Γ a b μ) (modW Γ a b (mPut_now μ (mCtl (mNow μ) (mPar μ) (mIdeal μ)))) := by
  refine Cv.of (cc := cX7_controls) (own := RX7) (nL := 17) (ret := none) (by decide +kernel) rfl rfl (Nat.le_of_ble_eq_true rfl) ?_
  intro p e s m args below meth c A Q H locs ls ha hAe hQ hx hb hml hr hts hown hlk hP hK hD hS hA hG hl
  have hh : Hd Γ p s m args c cX7_controls RX7 17 wsX7_controls A := ⟨⟨hx, hb, hml, hown, hts⟩, hK, hA, hG⟩
  have hl : lv_has ls 17 [(0, .ref (a b))] := hl
  have hJ_25 : ∀ (v1 : Int32), (v1 = mMod (mNow μ) (mIdeal μ)) → ∀ (H : Heap) (locs : List Loc) (ls : Array Slot), va_P (gD Γ) vwCl (modW Γ a b μ) H → va_D A (modW Γ a b μ) → va_S A s.heap H locs → lv_has ls 17 [(0, .ref (a b))] → W p l e rm_X7_controls s m args below meth c H locs 0 0 Q (F0 m 25 ls [.int v1]) := by
    intro v1 e1 H locs ls hP hD hS hl
    refine lv_istore_n (lv' := [(1, .int v1), (0, .ref (a b))]) hx hb dX7_controls_25 rfl hl (by decide) rfl (fun ls hl => ?_)
    have hJ_51 : ∀ (v2 : Int32), (v2 = mFul (mNow μ) (mIdeal μ)) → ∀ (H : Heap) (locs : List Loc) (ls : Array Slot), va_P (gD Γ) vwCl (modW Γ a b μ) H → va_D A (modW Γ a b μ) → va_S A s.heap H locs → lv_has ls 17 [(0, .ref (a b)), (1, .int v1)] → W p l e rm_X7_controls s m args below meth c H locs 0 0 Q (F0 m 51 ls [.int v2]) := by
      intro v2 e2 H locs ls hP hD hS hl
      refine lv_istore_n (lv' := [(2, .int v2), (0, .ref (a b)), (1, .int v1)]) hx hb dX7_controls_51 rfl hl (by decide) rfl (fun ls hl => ?_)
      have hJ_75 : ∀ (v3 : Int64), (v3 = mKp v2 (mPar μ)) → ∀ (H : Heap) (locs : List Loc) (ls : Array Slot), va_P (gD Γ) vwCl (modW Γ a b μ) H → va_D A (modW Γ a b μ) → va_S A s.heap H locs → lv_has ls 17 [(0, .ref (a b)), (1, .int v1), (2, .int v2)] → W p l e rm_X7_controls s m args below meth c H locs 0 0 Q (F0 m 75 ls [.long v3]) := by
        intro v3 e3 H locs ls hP hD hS hl
        refine lv_lstore_n (lv' := [(3, .long v3), (0, .ref (a b)), (1, .int v1), (2, .int v2)]) hx hb dX7_controls_75 rfl hl (by decide) rfl (fun ls hl => ?_)
        have hJ_99 : ∀ (v5 : Int64), (v5 = mKi v2 (mPar μ)) → ∀ (H : Heap) (locs : List Loc) (ls : Array Slot), va_P (gD Γ) vwCl (modW Γ a b μ) H → va_D A (modW Γ a b μ) → va_S A s.heap H locs → lv_has ls 17 [(0, .ref (a b)), (1, .int v1), (2, .int v2), (3, .long v3)] → W p l e rm_X7_controls s m args below meth c H locs 0 0 Q (F0 m 99 ls [.long v5]) := by
          intro v5 e5 H locs ls hP hD hS hl
          refine lv_lstore (lv' := [(5, .long v5), (0, .ref (a b)), (1, .int v1), (2, .int v2), (3, .long v3)]) hx hb dX7_controls_99 hl (by decide) rfl (fun ls hl => ?_)
          have hJ_141 : ∀ (v6 : Int64), (v6 = mFb v1 (mNow μ)) → ∀ (H : Heap) (locs : List Loc) (ls : Array Slot), va_P (gD Γ) vwCl (modW Γ a b μ) H → va_D A (modW Γ a b μ) → va_S A s.heap H locs → lv_has ls 17 [(0, .ref (a b)), (1, .int v1), (2, .int v2), (3, .long v3), (5, .long v5)] → W p l e rm_X7_controls s m args below meth c H locs 0 0 Q (F0 m 141 ls [.long v6, .long (mNow μ 641)]) := by
            intro v6 e6 H locs ls hP hD hS hl
            refine lv_lsub hx hb dX7_controls_141 ?_
            refine lv_lstore (lv' := [(7, .long ((mNow μ 641) - v6)), (0, .ref (a b)), (1, .int v1), (2, .int v2), (3, .long v3), (5, .long v5)]) hx hb dX7_controls_142 hl (by decide) rfl (fun ls hl => ?_)
            refine lv_aload_n hx hb dX7_controls_144 rfl (lv_at hl 1 rfl) ?_
            refine va_get (D := gD Γ) (cl := vwCl) (tys := gTy Γ) (ci := 7) (v := .ref (a (b + 1))) (C := RX7) (T := TX7) (N := 18) hx hb hts iX7_controls_7 hown hK hP 0 rfl rfl 0 (Nat.le_of_ble_eq_true rfl) (hts (.fieldLink RX7 7 "DeadTimeLoopModel" "now" "[J") (List.mem_of_getElem? (i := 1) rfl)) (fun _ h9 => h9) rfl dX7_controls_145 ?_
            refine lv_sipush (v := 647) hx hb dX7_controls_148 (by decide) ?_
            refine ka_lald (D := gD Γ) (cl := vwCl) (tys := gTy Γ) hx hb hK hP 1 1 rfl rfl 647 (by decide) (by decide) (by decide) (v := ((mNow μ) 647)) rfl dX7_controls_151 ?_
            refine lv_lload hx hb dX7_controls_152 (lv_at hl 5 rfl) ?_
            refine lv_lload hx hb dX7_controls_154 (lv_at hl 0 rfl) ?_
            refine lv_lmul hx hb dX7_controls_156 ?_
            refine lv_ldc2 hx hb hown (hts (.constantLong RX7 142 (1000)) (List.mem_of_getElem? (i := 4) rfl)) dX7_controls_157 ?_
            refine ca_Sl hh hl.1 (c_X7_floor Γ l (v5 * ((mNow μ 641) - v6)) 1000 (by decide)) (va_cwS 2 hts gX7_controls_X7_floor rfl rfl rfl (by decide +kernel) ⟨(Nat.le_of_ble_eq_true rfl), (Nat.le_of_ble_eq_true rfl)⟩) (As := [.long (v5 * ((mNow μ 641) - v6)), .long 1000]) (rest := [.long ((mNow μ) 647)]) rfl dX7_controls_160 rfl (Nat.le_of_ble_eq_true rfl) hP hD hS ⟨Nat.zero_le _, Nat.zero_le _⟩ (fun H locs hP hS => ?_)
            refine lv_topl (fun r_160 er_160 => ?_)
            have er_160 : r_160 = (mFloor (v5 * ((mNow μ 641) - v6)) 1000) := er_160
            refine lv_ladd hx hb dX7_controls_163 ?_
            refine lv_lstore (lv' := [(9, .long (((mNow μ) 647) + r_160)), (7, .long ((mNow μ 641) - v6)), (0, .ref (a b)), (1, .int v1), (2, .int v2), (3, .long v3), (5, .long v5)]) hx hb dX7_controls_164 hl (by decide) rfl (fun ls hl => ?_)
            refine lv_lload_n hx hb dX7_controls_166 rfl (lv_at hl 5 rfl) ?_
            refine lv_lload hx hb dX7_controls_167 (lv_at hl 1 rfl) ?_
            refine lv_lmul hx hb dX7_controls_169 ?_
            refine lv_ldc2 hx hb hown (hts (.constantLong RX7 142 (1000)) (List.mem_of_getElem? (i := 4) rfl)) dX7_controls_170 ?_
            refine ca_Sl hh hl.1 (c_X7_floor Γ l (v3 * ((mNow μ 641) - v6)) 1000 (by decide)) (va_cwS 2 hts gX7_controls_X7_floor rfl rfl rfl (by decide +kernel) ⟨(Nat.le_of_ble_eq_true rfl), (Nat.le_of_ble_eq_true rfl)⟩) (As := [.long (v3 * ((mNow μ 641) - v6)), .long 1000]) (rest := []) rfl dX7_controls_173 rfl (Nat.le_of_ble_eq_true rfl) hP hD hS ⟨Nat.zero_le _, Nat.zero_le _⟩ (fun H locs hP hS => ?_)
            refine lv_topl (fun r_173 er_173 => ?_)
            have er_173 : r_173 = (mFloor (v3 * ((mNow μ 641) - v6)) 1000) := er_173
            refine lv_lload hx hb dX7_controls_176 (lv_at hl 0 rfl) ?_
            refine lv_ladd hx hb dX7_controls_178 ?_
            refine lv_lstore (lv' := [(11, .long (r_173 + (((mNow μ) 647) + r_160))), (9, .long (((mNow μ) 647) + r_160)), (7, .long ((mNow μ 641) - v6)), (0, .ref (a b)), (1, .int v1), (2, .int v2), (3, .long v3), (5, .long v5)]) hx hb dX7_controls_179 hl (by decide) rfl (fun ls hl => ?_)
            have hJ_233 : ∀ (v7 : Int64), (v7 = mClip (r_173 + (((mNow μ) 647) + r_160)) (mPar μ)) → ∀ (H : Heap) (locs : List Loc) (ls : Array Slot), va_P (gD Γ) vwCl (modW Γ a b μ) H → va_D A (modW Γ a b μ) → va_S A s.heap H locs → lv_has ls 17 [(0, .ref (a b)), (7, .long ((mNow μ 641) - v6)), (9, .long (((mNow μ) 647) + r_160)), (11, .long (r_173 + (((mNow μ) 647) + r_160)))] → W p l e rm_X7_controls s m args below meth c H locs 0 0 Q (F0 m 233 ls [.long v7]) := by
              intro v7 e7 H locs ls hP hD hS hl
              refine lv_lstore (lv' := [(13, .long v7), (0, .ref (a b)), (7, .long ((mNow μ 641) - v6)), (9, .long (((mNow μ) 647) + r_160)), (11, .long (r_173 + (((mNow μ) 647) + r_160)))]) hx hb dX7_controls_233 hl (by decide) rfl (fun ls hl => ?_)
              refine lv_aload_n hx hb dX7_controls_235 rfl (lv_at hl 1 rfl) ?_
              refine va_get (D := gD Γ) (cl := vwCl) (tys := gTy Γ) (ci := 7) (v := .ref (a (b + 1))) (C := RX7) (T := TX7) (N := 18) hx hb hts iX7_controls_7 hown hK hP 0 rfl rfl 0 (Nat.le_of_ble_eq_true rfl) (hts (.fieldLink RX7 7 "DeadTimeLoopModel" "now" "[J") (List.mem_of_getElem? (i := 1) rfl)) (fun _ h9 => h9) rfl dX7_controls_236 ?_
              refine lv_sipush (v := 651) hx hb dX7_controls_239 (by decide) ?_
              refine ka_lald (D := gD Γ) (cl := vwCl) (tys := gTy Γ) hx hb hK hP 1 1 rfl rfl 651 (by decide) (by decide) (by decide) (v := ((mNow μ) 651)) rfl dX7_controls_242 ?_
              refine lv_lstore (lv' := [(15, .long ((mNow μ) 651)), (13, .long v7), (0, .ref (a b)), (7, .long ((mNow μ 641) - v6)), (9, .long (((mNow μ) 647) + r_160)), (11, .long (r_173 + (((mNow μ) 647) + r_160)))]) hx hb dX7_controls_243 hl (by decide) rfl (fun ls hl => ?_)
              have hJ_309 : ∀ (v8 : Int64), (v8 = mRt v7 (mNow μ 651) (mPar μ)) → ∀ (H : Heap) (locs : List Loc) (ls : Array Slot), va_P (gD Γ) vwCl (modW Γ a b μ) H → va_D A (modW Γ a b μ) → va_S A s.heap H locs → lv_has ls 17 [(0, .ref (a b)), (7, .long ((mNow μ 641) - v6)), (9, .long (((mNow μ) 647) + r_160)), (11, .long (r_173 + (((mNow μ) 647) + r_160))), (15, .long ((mNow μ) 651))] → W p l e rm_X7_controls s m args below meth c H locs 0 0 Q (F0 m 309 ls [.long v8]) := by
                intro v8 e8 H locs ls hP hD hS hl
                refine lv_lstore (lv' := [(13, .long v8), (0, .ref (a b)), (7, .long ((mNow μ 641) - v6)), (9, .long (((mNow μ) 647) + r_160)), (11, .long (r_173 + (((mNow μ) 647) + r_160))), (15, .long ((mNow μ) 651))]) hx hb dX7_controls_309 hl (by decide) rfl (fun ls hl => ?_)
                refine lv_aload_n hx hb dX7_controls_311 rfl (lv_at hl 1 rfl) ?_
                refine va_get (D := gD Γ) (cl := vwCl) (tys := gTy Γ) (ci := 7) (v := .ref (a (b + 1))) (C := RX7) (T := TX7) (N := 18) hx hb hts iX7_controls_7 hown hK hP 0 rfl rfl 0 (Nat.le_of_ble_eq_true rfl) (hts (.fieldLink RX7 7 "DeadTimeLoopModel" "now" "[J") (List.mem_of_getElem? (i := 1) rfl)) (fun _ h9 => h9) rfl dX7_controls_312 ?_
                refine lv_sipush (v := 654) hx hb dX7_controls_315 (by decide) ?_
                refine lv_lload hx hb dX7_controls_318 (lv_at hl 2 rfl) ?_
                refine ka_last (D := gD Γ) (cl := vwCl) (tys := gTy Γ) hx hb hK hP hD hS 1 1 rfl rfl 654 (by decide) (by decide) (by decide) (wf := modW Γ a b ((vp_updL (mNow μ) 654 ((mNow μ 641) - v6)), (mAside μ), (mKept μ), (mKm μ), (mPar μ), (mParA μ), (mBef μ), (mUm μ), (mLow μ), (mHigh μ), (mNames μ), (mLen μ), (mText μ), (mPath μ), (mIdeal μ), (mSpot μ), (mWhich μ), (mNum μ))) rfl dX7_controls_320 (fun H locs hP hD hS => ?_)
                refine lv_aload_n hx hb dX7_controls_321 rfl (lv_at hl 1 rfl) ?_
                refine va_get (D := gD Γ) (cl := vwCl) (tys := gTy Γ) (ci := 7) (v := .ref (a (b + 1))) (C := RX7) (T := TX7) (N := 18) hx hb hts iX7_controls_7 hown hK hP 0 rfl rfl 0 (Nat.le_of_ble_eq_true rfl) (hts (.fieldLink RX7 7 "DeadTimeLoopModel" "now" "[J") (List.mem_of_getElem? (i := 1) rfl)) (fun _ h9 => h9) rfl dX7_controls_322 ?_
                refine lv_sipush (v := 651) hx hb dX7_controls_325 (by decide) ?_
                refine lv_lload hx hb dX7_controls_328 (lv_at hl 0 rfl) ?_
                refine ka_last (D := gD Γ) (cl := vwCl) (tys := gTy Γ) hx hb hK hP hD hS 1 1 rfl rfl 651 (by decide) (by decide) (by decide) (wf := modW Γ a b ((vp_updL (vp_updL (mNow μ) 654 ((mNow μ 641) - v6)) 651 v8), (mAside μ), (mKept μ), (mKm μ), (mPar μ), (mParA μ), (mBef μ), (mUm μ), (mLow μ), (mHigh μ), (mNames μ), (mLen μ), (mText μ), (mPath μ), (mIdeal μ), (mSpot μ), (mWhich μ), (mNum μ))) rfl dX7_controls_330 (fun H locs hP hD hS => ?_)
                refine lv_aload_n hx hb dX7_controls_331 rfl (lv_at hl 1 rfl) ?_
                refine va_get (D := gD Γ) (cl := vwCl) (tys := gTy Γ) (ci := 7) (v := .ref (a (b + 1))) (C := RX7) (T := TX7) (N := 18) hx hb hts iX7_controls_7 hown hK hP 0 rfl rfl 0 (Nat.le_of_ble_eq_true rfl) (hts (.fieldLink RX7 7 "DeadTimeLoopModel" "now" "[J") (List.mem_of_getElem? (i := 1) rfl)) (fun _ h9 => h9) rfl dX7_controls_332 ?_
                refine lv_sipush (v := 647) hx hb dX7_controls_335 (by decide) ?_
                have hJ_381 : ∀ (v9 : Int64), (v9 = mHold (mHoldB v8 (r_173 + (((mNow μ) 647) + r_160)) ((mNow μ 641) - v6)) (mNow μ 647) (((mNow μ) 647) + r_160)) → ∀ (H : Heap) (locs : List Loc) (ls : Array Slot), va_P (gD Γ) vwCl (modW Γ a b ((vp_updL (vp_updL (mNow μ) 654 ((mNow μ 641) - v6)) 651 v8), (mAside μ), (mKept μ), (mKm μ), (mPar μ), (mParA μ), (mBef μ), (mUm μ), (mLow μ), (mHigh μ), (mNames μ), (mLen μ), (mText μ), (mPath μ), (mIdeal μ), (mSpot μ), (mWhich μ), (mNum μ))) H → va_D A (modW Γ a b ((vp_updL (vp_updL (mNow μ) 654 ((mNow μ 641) - v6)) 651 v8), (mAside μ), (mKept μ), (mKm μ), (mPar μ), (mParA μ), (mBef μ), (mUm μ), (mLow μ), (mHigh μ), (mNames μ), (mLen μ), (mText μ), (mPath μ), (mIdeal μ), (mSpot μ), (mWhich μ), (mNum μ))) → va_S A s.heap H locs → lv_has ls 17 [(0, .ref (a b)), (7, .long ((mNow μ 641) - v6)), (9, .long (((mNow μ) 647) + r_160)), (11, .long (r_173 + (((mNow μ) 647) + r_160))), (13, .long v8), (15, .long ((mNow μ) 651))] → W p l e rm_X7_controls s m args below meth c H locs 0 0 Q (F0 m 381 ls [.long v9, .int 647, .ref (a (b + 1))]) := by
                  intro v9 e9 H locs ls hP hD hS hl
                  refine ka_last (D := gD Γ) (cl := vwCl) (tys := gTy Γ) hx hb hK hP hD hS 1 1 rfl rfl 647 rfl (by decide) (by decide) (wf := modW Γ a b ((vp_updL (vp_updL (vp_updL (mNow μ) 654 ((mNow μ 641) - v6)) 651 v8) 647 v9), (mAside μ), (mKept μ), (mKm μ), (mPar μ), (mParA μ), (mBef μ), (mUm μ), (mLow μ), (mHigh μ), (mNames μ), (mLen μ), (mText μ), (mPath μ), (mIdeal μ), (mSpot μ), (mWhich μ), (mNum μ))) rfl dX7_controls_381 (fun H locs hP hD hS => ?_)
                  refine lv_aload_n hx hb dX7_controls_382 rfl (lv_at hl 0 rfl) ?_
                  refine va_get (D := gD Γ) (cl := vwCl) (tys := gTy Γ) (ci := 7) (v := .ref (a (b + 1))) (C := RX7) (T := TX7) (N := 18) hx hb hts iX7_controls_7 hown hK hP 0 rfl rfl 0 (Nat.le_of_ble_eq_true rfl) (hts (.fieldLink RX7 7 "DeadTimeLoopModel" "now" "[J") (List.mem_of_getElem? (i := 1) rfl)) (fun _ h9 => h9) rfl dX7_controls_383 ?_
                  refine lv_sipush (v := 657) hx hb dX7_controls_386 (by decide) ?_
                  refine lv_dup2_11 hx hb dX7_controls_389 rfl rfl ?_
                  refine ka_lald (D := gD Γ) (cl := vwCl) (tys := gTy Γ) hx hb hK hP 1 1 rfl rfl 657 (by decide) (by decide) (by decide) (v := ((mNow μ) 657)) rfl dX7_controls_390 ?_
                  refine lv_lload hx hb dX7_controls_391 (lv_at hl 4 rfl) ?_
                  refine lv_lload hx hb dX7_controls_393 (lv_at hl 5 rfl) ?_
                  refine lv_lsub hx hb dX7_controls_395 ?_
                  refine ca_Sl hh hl.1 (c_X7_size Γ l (v8 - ((mNow μ) 651))) (va_cwS 1 hts gX7_controls_X7_size rfl rfl rfl (by decide +kernel) ⟨(Nat.le_of_ble_eq_true rfl), (Nat.le_of_ble_eq_true rfl)⟩) (As := [.long (v8 - ((mNow μ) 651))]) (rest := [.long ((mNow μ) 657), .int 657, .ref (a (b + 1))]) rfl dX7_controls_396 rfl (Nat.le_of_ble_eq_true rfl) hP hD hS ⟨Nat.zero_le _, Nat.zero_le _⟩ (fun H locs hP hS => ?_)
                  refine lv_ladd hx hb dX7_controls_399 ?_
                  refine lv_topl (fun r_400 er_400 => ?_)
                  have er_400 : r_400 = (((mNow μ) 657) + (mSize (v8 - ((mNow μ) 651)))) := er_400
                  refine ka_last (D := gD Γ) (cl := vwCl) (tys := gTy Γ) hx hb hK hP hD hS 1 1 rfl rfl 657 (by decide) (by decide) (by decide) (wf := modW Γ a b ((vp_updL (vp_updL (vp_updL (vp_updL (mNow μ) 654 ((mNow μ 641) - v6)) 651 v8) 647 v9) 657 r_400), (mAside μ), (mKept μ), (mKm μ), (mPar μ), (mParA μ), (mBef μ), (mUm μ), (mLow μ), (mHigh μ), (mNames μ), (mLen μ), (mText μ), (mPath μ), (mIdeal μ), (mSpot μ), (mWhich μ), (mNum μ))) rfl dX7_controls_400 (fun H locs hP hD hS => ?_)
                  exact re_v hQ ha hx hb hr hlk hAe hP hS dX7_controls_401 (by simp only [mCtl, mCtl1, mCtl2, mCtl3, mCtl4, mCtl5, mPut_now, ← e1, ← e2, ← e3, ← e5, ← e6, ← er_160, ← er_173, ← e7, ← e8, ← e9, ← er_400, if_true, if_false, i32_10])
                refine lv_lload hx hb dX7_controls_338 (lv_at hl 0 rfl) ?_
                refine lv_lload hx hb dX7_controls_340 (lv_at hl 4 rfl) ?_
                refine W.lcmp hx hb dX7_controls_342 ?_
                refine lv_if_ge (tgt := 353) hx hb dX7_controls_343 (by decide) (fun c_343 => ?_) (fun c_343 => ?_)
                · -- yes
                  have c_343 := (lg_cmp_ge _ _).mp c_343
                  refine lv_lload hx hb dX7_controls_353 (lv_at hl 0 rfl) ?_
                  refine lv_lload hx hb dX7_controls_355 (lv_at hl 4 rfl) ?_
                  refine W.lcmp hx hb dX7_controls_357 ?_
                  refine lv_if_le (tgt := 379) hx hb dX7_controls_358 (by decide) (fun c_358 => ?_) (fun c_358 => ?_)
                  · -- yes
                    have c_358 := (lg_cmp_le _ _).mp c_358
                    refine lv_lload hx hb dX7_controls_379 (lv_at hl 3 rfl) ?_
                    exact hJ_381 _ (by simp only [mHold, mHoldB, c_343, c_358, if_true, if_false, i32_10]) _ _ _ hP hD hS (lv_sub hl [1, 2, 3, 4, 0, 5] rfl)
                  · -- no
                    have c_358 := mt (lg_cmp_le _ _).mpr c_358
                    refine lv_lload hx hb dX7_controls_361 (lv_at hl 2 rfl) ?_
                    refine lv_lconst (v := 0) hx hb dX7_controls_363 (by decide) ?_
                    refine W.lcmp hx hb dX7_controls_364 ?_
                    refine lv_if_ge (tgt := 379) hx hb dX7_controls_365 (by decide) (fun c_365 => ?_) (fun c_365 => ?_)
                    · -- yes
                      have c_365 := (lg_cmp_ge _ _).mp c_365
                      refine lv_lload hx hb dX7_controls_379 (lv_at hl 3 rfl) ?_
                      exact hJ_381 _ (by simp only [mHold, mHoldB, c_343, c_358, c_365, if_true, if_false, i32_10]) _ _ _ hP hD hS (lv_sub hl [1, 2, 3, 4, 0, 5] rfl)
                    · -- no
                      have c_365 := mt (lg_cmp_ge _ _).mpr c_365
                      refine lv_aload_n hx hb dX7_controls_368 rfl (lv_at hl 1 rfl) ?_
                      refine va_get (D := gD Γ) (cl := vwCl) (tys := gTy Γ) (ci := 7) (v := .ref (a (b + 1))) (C := RX7) (T := TX7) (N := 18) hx hb hts iX7_controls_7 hown hK hP 0 rfl rfl 0 (Nat.le_of_ble_eq_true rfl) (hts (.fieldLink RX7 7 "DeadTimeLoopModel" "now" "[J") (List.mem_of_getElem? (i := 1) rfl)) (fun _ h9 => h9) rfl dX7_controls_369 ?_
                      refine lv_sipush (v := 647) hx hb dX7_controls_372 (by decide) ?_
                      refine ka_lald (D := gD Γ) (cl := vwCl) (tys := gTy Γ) hx hb hK hP 1 1 rfl rfl 647 (by decide) (by decide) (by decide) (v := ((mNow μ) 647)) rfl dX7_controls_375 ?_
                      refine lv_goto (tgt := 381) hx hb dX7_controls_376 (by decide) ?_
                      exact hJ_381 _ (by simp only [mHold, mHoldB, c_343, c_358, c_365, if_true, if_false, i32_10]) _ _ _ hP hD hS (lv_sub hl [1, 2, 3, 4, 0, 5] rfl)
                · -- no
                  have c_343 := mt (lg_cmp_ge _ _).mpr c_343
                  refine lv_lload hx hb dX7_controls_346 (lv_at hl 2 rfl) ?_
                  refine lv_lconst (v := 0) hx hb dX7_controls_348 (by decide) ?_
                  refine W.lcmp hx hb dX7_controls_349 ?_
                  refine lv_if_gt (tgt := 368) hx hb dX7_controls_350 (by decide) (fun c_350 => ?_) (fun c_350 => ?_)
                  · -- yes
                    have c_350 := (lg_cmp_gt _ _).mp c_350
                    refine lv_aload_n hx hb dX7_controls_368 rfl (lv_at hl 1 rfl) ?_
                    refine va_get (D := gD Γ) (cl := vwCl) (tys := gTy Γ) (ci := 7) (v := .ref (a (b + 1))) (C := RX7) (T := TX7) (N := 18) hx hb hts iX7_controls_7 hown hK hP 0 rfl rfl 0 (Nat.le_of_ble_eq_true rfl) (hts (.fieldLink RX7 7 "DeadTimeLoopModel" "now" "[J") (List.mem_of_getElem? (i := 1) rfl)) (fun _ h9 => h9) rfl dX7_controls_369 ?_
                    refine lv_sipush (v := 647) hx hb dX7_controls_372 (by decide) ?_
                    refine ka_lald (D := gD Γ) (cl := vwCl) (tys := gTy Γ) hx hb hK hP 1 1 rfl rfl 647 (by decide) (by decide) (by decide) (v := ((mNow μ) 647)) rfl dX7_controls_375 ?_
                    refine lv_goto (tgt := 381) hx hb dX7_controls_376 (by decide) ?_
                    exact hJ_381 _ (by simp only [mHold, mHoldB, c_343, c_350, if_true, if_false, i32_10]) _ _ _ hP hD hS (lv_sub hl [1, 2, 3, 4, 0, 5] rfl)
                  · -- no
                    have c_350 := mt (lg_cmp_gt _ _).mpr c_350
                    refine lv_lload hx hb dX7_controls_353 (lv_at hl 0 rfl) ?_
                    refine lv_lload hx hb dX7_controls_355 (lv_at hl 4 rfl) ?_
                    refine W.lcmp hx hb dX7_controls_357 ?_
                    refine lv_if_le (tgt := 379) hx hb dX7_controls_358 (by decide) (fun c_358b => ?_) (fun c_358b => ?_)
                    · -- yes
                      have c_358b := (lg_cmp_le _ _).mp c_358b
                      refine lv_lload hx hb dX7_controls_379 (lv_at hl 3 rfl) ?_
                      exact hJ_381 _ (by simp only [mHold, mHoldB, c_343, c_350, c_358b, if_true, if_false, i32_10]) _ _ _ hP hD hS (lv_sub hl [1, 2, 3, 4, 0, 5] rfl)
                    · -- no
                      have c_358b := mt (lg_cmp_le _ _).mpr c_358b
                      refine lv_lload hx hb dX7_controls_361 (lv_at hl 2 rfl) ?_
                      refine lv_lconst (v := 0) hx hb dX7_controls_363 (by decide) ?_
                      refine W.lcmp hx hb dX7_controls_364 ?_
                      refine lv_if_ge (tgt := 379) hx hb dX7_controls_365 (by decide) (fun c_365b => ?_) (fun c_365b => ?_)
                      · -- yes
                        have c_365b := (lg_cmp_ge _ _).mp c_365b
                        refine lv_lload hx hb dX7_controls_379 (lv_at hl 3 rfl) ?_
                        exact hJ_381 _ (by simp only [mHold, mHoldB, c_343, c_350, c_358b, c_365b, if_true, if_false, i32_10]) _ _ _ hP hD hS (lv_sub hl [1, 2, 3, 4, 0, 5] rfl)
                      · -- no
                        have c_365b := mt (lg_cmp_ge _ _).mpr c_365b
                        refine lv_aload_n hx hb dX7_controls_368 rfl (lv_at hl 1 rfl) ?_
                        refine va_get (D := gD Γ) (cl := vwCl) (tys := gTy Γ) (ci := 7) (v := .ref (a (b + 1))) (C := RX7) (T := TX7) (N := 18) hx hb hts iX7_controls_7 hown hK hP 0 rfl rfl 0 (Nat.le_of_ble_eq_true rfl) (hts (.fieldLink RX7 7 "DeadTimeLoopModel" "now" "[J") (List.mem_of_getElem? (i := 1) rfl)) (fun _ h9 => h9) rfl dX7_controls_369 ?_
                        refine lv_sipush (v := 647) hx hb dX7_controls_372 (by decide) ?_
                        refine ka_lald (D := gD Γ) (cl := vwCl) (tys := gTy Γ) hx hb hK hP 1 1 rfl rfl 647 (by decide) (by decide) (by decide) (v := ((mNow μ) 647)) rfl dX7_controls_375 ?_
                        refine lv_goto (tgt := 381) hx hb dX7_controls_376 (by decide) ?_
                        exact hJ_381 _ (by simp only [mHold, mHoldB, c_343, c_350, c_358b, c_365b, if_true, if_false, i32_10]) _ _ _ hP hD hS (lv_sub hl [1, 2, 3, 4, 0, 5] rfl)
              refine lv_lload hx hb dX7_controls_245 (lv_at hl 1 rfl) ?_
              refine lv_lload hx hb dX7_controls_247 (lv_at hl 0 rfl) ?_
              refine lv_aload_n hx hb dX7_controls_249 rfl (lv_at hl 2 rfl) ?_
              refine va_get (D := gD Γ) (cl := vwCl) (tys := gTy Γ) (ci := 7) (v := .ref (a (b + 4))) (C := RX7) (T := TX7) (N := 18) hx hb hts iX7_controls_7 hown hK hP 0 rfl rfl 4 (Nat.le_of_ble_eq_true rfl) (hts (.fieldLink RX7 19 "DeadTimeLoopModel" "par" "[I") (List.mem_of_getElem? (i := 3) rfl)) (fun _ h9 => h9) rfl dX7_controls_250 ?_
              refine lv_bipush (v := 11) hx hb dX7_controls_253 (by decide) ?_
              refine ka_iald (D := gD Γ) (cl := vwCl) (tys := gTy Γ) hx hb hK hP 4 0 rfl rfl 11 (by decide) (by decide) (by decide) (v := ((mPar μ) 11)) rfl dX7_controls_255 ?_
              refine lv_i2l (v := ((mPar μ) 11).toInt64) hx hb dX7_controls_256 rfl ?_
              refine lv_ladd hx hb dX7_controls_257 ?_
              refine W.lcmp hx hb dX7_controls_258 ?_
              refine lv_if_le (tgt := 276) hx hb dX7_controls_259 (by decide) (fun c_259 => ?_) (fun c_259 => ?_)
              · -- yes
                have c_259 := (lg_cmp_le _ _).mp c_259
                refine lv_lload hx hb dX7_controls_276 (lv_at hl 1 rfl) ?_
                refine lv_lload hx hb dX7_controls_278 (lv_at hl 0 rfl) ?_
                refine lv_aload_n hx hb dX7_controls_280 rfl (lv_at hl 2 rfl) ?_
                refine va_get (D := gD Γ) (cl := vwCl) (tys := gTy Γ) (ci := 7) (v := .ref (a (b + 4))) (C := RX7) (T := TX7) (N := 18) hx hb hts iX7_controls_7 hown hK hP 0 rfl rfl 4 (Nat.le_of_ble_eq_true rfl) (hts (.fieldLink RX7 19 "DeadTimeLoopModel" "par" "[I") (List.mem_of_getElem? (i := 3) rfl)) (fun _ h9 => h9) rfl dX7_controls_281 ?_
                refine lv_bipush (v := 11) hx hb dX7_controls_284 (by decide) ?_
                refine ka_iald (D := gD Γ) (cl := vwCl) (tys := gTy Γ) hx hb hK hP 4 0 rfl rfl 11 (by decide) (by decide) (by decide) (v := ((mPar μ) 11)) rfl dX7_controls_286 ?_
                refine lv_i2l (v := ((mPar μ) 11).toInt64) hx hb dX7_controls_287 rfl ?_
                refine lv_lsub hx hb dX7_controls_288 ?_
                refine W.lcmp hx hb dX7_controls_289 ?_
                refine lv_if_ge (tgt := 307) hx hb dX7_controls_290 (by decide) (fun c_290 => ?_) (fun c_290 => ?_)
                · -- yes
                  have c_290 := (lg_cmp_ge _ _).mp c_290
                  refine lv_lload hx hb dX7_controls_307 (lv_at hl 1 rfl) ?_
                  exact hJ_309 _ (by simp only [mRt, c_259, c_290, if_true, if_false]) _ _ _ hP hD hS (lv_sub hl [2, 3, 4, 5, 0] rfl)
                · -- no
                  have c_290 := mt (lg_cmp_ge _ _).mpr c_290
                  refine lv_lload hx hb dX7_controls_293 (lv_at hl 0 rfl) ?_
                  refine lv_aload_n hx hb dX7_controls_295 rfl (lv_at hl 2 rfl) ?_
                  refine va_get (D := gD Γ) (cl := vwCl) (tys := gTy Γ) (ci := 7) (v := .ref (a (b + 4))) (C := RX7) (T := TX7) (N := 18) hx hb hts iX7_controls_7 hown hK hP 0 rfl rfl 4 (Nat.le_of_ble_eq_true rfl) (hts (.fieldLink RX7 19 "DeadTimeLoopModel" "par" "[I") (List.mem_of_getElem? (i := 3) rfl)) (fun _ h9 => h9) rfl dX7_controls_296 ?_
                  refine lv_bipush (v := 11) hx hb dX7_controls_299 (by decide) ?_
                  refine ka_iald (D := gD Γ) (cl := vwCl) (tys := gTy Γ) hx hb hK hP 4 0 rfl rfl 11 (by decide) (by decide) (by decide) (v := ((mPar μ) 11)) rfl dX7_controls_301 ?_
                  refine lv_i2l (v := ((mPar μ) 11).toInt64) hx hb dX7_controls_302 rfl ?_
                  refine lv_lsub hx hb dX7_controls_303 ?_
                  refine lv_goto (tgt := 309) hx hb dX7_controls_304 (by decide) ?_
                  exact hJ_309 _ (by simp only [mRt, c_259, c_290, if_true, if_false]) _ _ _ hP hD hS (lv_sub hl [2, 3, 4, 5, 0] rfl)
              · -- no
                have c_259 := mt (lg_cmp_le _ _).mpr c_259
                refine lv_lload hx hb dX7_controls_262 (lv_at hl 0 rfl) ?_
                refine lv_aload_n hx hb dX7_controls_264 rfl (lv_at hl 2 rfl) ?_
                refine va_get (D := gD Γ) (cl := vwCl) (tys := gTy Γ) (ci := 7) (v := .ref (a (b + 4))) (C := RX7) (T := TX7) (N := 18) hx hb hts iX7_controls_7 hown hK hP 0 rfl rfl 4 (Nat.le_of_ble_eq_true rfl) (hts (.fieldLink RX7 19 "DeadTimeLoopModel" "par" "[I") (List.mem_of_getElem? (i := 3) rfl)) (fun _ h9 => h9) rfl dX7_controls_265 ?_
                refine lv_bipush (v := 11) hx hb dX7_controls_268 (by decide) ?_
                refine ka_iald (D := gD Γ) (cl := vwCl) (tys := gTy Γ) hx hb hK hP 4 0 rfl rfl 11 (by decide) (by decide) (by decide) (v := ((mPar μ) 11)) rfl dX7_controls_270 ?_
                refine lv_i2l (v := ((mPar μ) 11).toInt64) hx hb dX7_controls_271 rfl ?_
                refine lv_ladd hx hb dX7_controls_272 ?_
                refine lv_goto (tgt := 309) hx hb dX7_controls_273 (by decide) ?_
                exact hJ_309 _ (by simp only [mRt, c_259, if_true, if_false]) _ _ _ hP hD hS (lv_sub hl [2, 3, 4, 5, 0] rfl)
            refine lv_lload hx hb dX7_controls_181 (lv_at hl 0 rfl) ?_
            refine lv_aload_n hx hb dX7_controls_183 rfl (lv_at hl 3 rfl) ?_
            refine va_get (D := gD Γ) (cl := vwCl) (tys := gTy Γ) (ci := 7) (v := .ref (a (b + 4))) (C := RX7) (T := TX7) (N := 18) hx hb hts iX7_controls_7 hown hK hP 0 rfl rfl 4 (Nat.le_of_ble_eq_true rfl) (hts (.fieldLink RX7 19 "DeadTimeLoopModel" "par" "[I") (List.mem_of_getElem? (i := 3) rfl)) (fun _ h9 => h9) rfl dX7_controls_184 ?_
            refine lv_bipush (v := 10) hx hb dX7_controls_187 (by decide) ?_
            refine ka_iald (D := gD Γ) (cl := vwCl) (tys := gTy Γ) hx hb hK hP 4 0 rfl rfl 10 (by decide) (by decide) (by decide) (v := ((mPar μ) 10)) rfl dX7_controls_189 ?_
            refine lv_i2l (v := ((mPar μ) 10).toInt64) hx hb dX7_controls_190 rfl ?_
            refine W.lcmp hx hb dX7_controls_191 ?_
            refine lv_if_le (tgt := 206) hx hb dX7_controls_192 (by decide) (fun c_192 => ?_) (fun c_192 => ?_)
            · -- yes
              have c_192 := (lg_cmp_le _ _).mp c_192
              refine lv_lload hx hb dX7_controls_206 (lv_at hl 0 rfl) ?_
              refine lv_aload_n hx hb dX7_controls_208 rfl (lv_at hl 3 rfl) ?_
              refine va_get (D := gD Γ) (cl := vwCl) (tys := gTy Γ) (ci := 7) (v := .ref (a (b + 4))) (C := RX7) (T := TX7) (N := 18) hx hb hts iX7_controls_7 hown hK hP 0 rfl rfl 4 (Nat.le_of_ble_eq_true rfl) (hts (.fieldLink RX7 19 "DeadTimeLoopModel" "par" "[I") (List.mem_of_getElem? (i := 3) rfl)) (fun _ h9 => h9) rfl dX7_controls_209 ?_
              refine lv_bipush (v := 9) hx hb dX7_controls_212 (by decide) ?_
              refine ka_iald (D := gD Γ) (cl := vwCl) (tys := gTy Γ) hx hb hK hP 4 0 rfl rfl 9 (by decide) (by decide) (by decide) (v := ((mPar μ) 9)) rfl dX7_controls_214 ?_
              refine lv_i2l (v := ((mPar μ) 9).toInt64) hx hb dX7_controls_215 rfl ?_
              refine W.lcmp hx hb dX7_controls_216 ?_
              refine lv_if_ge (tgt := 231) hx hb dX7_controls_217 (by decide) (fun c_217 => ?_) (fun c_217 => ?_)
              · -- yes
                have c_217 := (lg_cmp_ge _ _).mp c_217
                refine lv_lload hx hb dX7_controls_231 (lv_at hl 0 rfl) ?_
                exact hJ_233 _ (by simp only [mClip, c_192, c_217, if_true, if_false]) _ _ _ hP hD hS (lv_sub hl [3, 2, 1, 0] rfl)
              · -- no
                have c_217 := mt (lg_cmp_ge _ _).mpr c_217
                refine lv_aload_n hx hb dX7_controls_220 rfl (lv_at hl 3 rfl) ?_
                refine va_get (D := gD Γ) (cl := vwCl) (tys := gTy Γ) (ci := 7) (v := .ref (a (b + 4))) (C := RX7) (T := TX7) (N := 18) hx hb hts iX7_controls_7 hown hK hP 0 rfl rfl 4 (Nat.le_of_ble_eq_true rfl) (hts (.fieldLink RX7 19 "DeadTimeLoopModel" "par" "[I") (List.mem_of_getElem? (i := 3) rfl)) (fun _ h9 => h9) rfl dX7_controls_221 ?_
                refine lv_bipush (v := 9) hx hb dX7_controls_224 (by decide) ?_
                refine ka_iald (D := gD Γ) (cl := vwCl) (tys := gTy Γ) hx hb hK hP 4 0 rfl rfl 9 (by decide) (by decide) (by decide) (v := ((mPar μ) 9)) rfl dX7_controls_226 ?_
                refine lv_i2l (v := ((mPar μ) 9).toInt64) hx hb dX7_controls_227 rfl ?_
                refine lv_goto (tgt := 233) hx hb dX7_controls_228 (by decide) ?_
                exact hJ_233 _ (by simp only [mClip, c_192, c_217, if_true, if_false]) _ _ _ hP hD hS (lv_sub hl [3, 2, 1, 0] rfl)
            · -- no
              have c_192 := mt (lg_cmp_le _ _).mpr c_192
              refine lv_aload_n hx hb dX7_controls_195 rfl (lv_at hl 3 rfl) ?_
              refine va_get (D := gD Γ) (cl := vwCl) (tys := gTy Γ) (ci := 7) (v := .ref (a (b + 4))) (C := RX7) (T := TX7) (N := 18) hx hb hts iX7_controls_7 hown hK hP 0 rfl rfl 4 (Nat.le_of_ble_eq_true rfl) (hts (.fieldLink RX7 19 "DeadTimeLoopModel" "par" "[I") (List.mem_of_getElem? (i := 3) rfl)) (fun _ h9 => h9) rfl dX7_controls_196 ?_
              refine lv_bipush (v := 10) hx hb dX7_controls_199 (by decide) ?_
              refine ka_iald (D := gD Γ) (cl := vwCl) (tys := gTy Γ) hx hb hK hP 4 0 rfl rfl 10 (by decide) (by decide) (by decide) (v := ((mPar μ) 10)) rfl dX7_controls_201 ?_
              refine lv_i2l (v := ((mPar μ) 10).toInt64) hx hb dX7_controls_202 rfl ?_
              refine lv_goto (tgt := 233) hx hb dX7_controls_203 (by decide) ?_
              exact hJ_233 _ (by simp only [mClip, c_192, if_true, if_false]) _ _ _ hP hD hS (lv_sub hl [3, 2, 1, 0] rfl)
          refine lv_aload_n hx hb dX7_controls_101 rfl (lv_at hl 1 rfl) ?_
          refine va_get (D := gD Γ) (cl := vwCl) (tys := gTy Γ) (ci := 7) (v := .ref (a (b + 1))) (C := RX7) (T := TX7) (N := 18) hx hb hts iX7_controls_7 hown hK hP 0 rfl rfl 0 (Nat.le_of_ble_eq_true rfl) (hts (.fieldLink RX7 7 "DeadTimeLoopModel" "now" "[J") (List.mem_of_getElem? (i := 1) rfl)) (fun _ h9 => h9) rfl dX7_controls_102 ?_
          refine lv_sipush (v := 641) hx hb dX7_controls_105 (by decide) ?_
          refine ka_lald (D := gD Γ) (cl := vwCl) (tys := gTy Γ) hx hb hK hP 1 1 rfl rfl 641 (by decide) (by decide) (by decide) (v := ((mNow μ) 641)) rfl dX7_controls_108 ?_
          refine lv_iload_n hx hb dX7_controls_109 rfl (lv_at hl 2 rfl) ?_
          refine lv_if_eq (tgt := 133) hx hb dX7_controls_110 (by decide) (fun c_110 => ?_) (fun c_110 => ?_)
          · -- yes
            refine lv_aload_n hx hb dX7_controls_133 rfl (lv_at hl 1 rfl) ?_
            refine va_get (D := gD Γ) (cl := vwCl) (tys := gTy Γ) (ci := 7) (v := .ref (a (b + 1))) (C := RX7) (T := TX7) (N := 18) hx hb hts iX7_controls_7 hown hK hP 0 rfl rfl 0 (Nat.le_of_ble_eq_true rfl) (hts (.fieldLink RX7 7 "DeadTimeLoopModel" "now" "[J") (List.mem_of_getElem? (i := 1) rfl)) (fun _ h9 => h9) rfl dX7_controls_134 ?_
            refine lv_sipush (v := 652) hx hb dX7_controls_137 (by decide) ?_
            refine ka_lald (D := gD Γ) (cl := vwCl) (tys := gTy Γ) hx hb hK hP 1 1 rfl rfl 652 (by decide) (by decide) (by decide) (v := ((mNow μ) 652)) rfl dX7_controls_140 ?_
            exact hJ_141 _ (by simp only [mFb, c_110, if_true, if_false]) _ _ _ hP hD hS (lv_sub hl [1, 2, 3, 4, 0] rfl)
          · -- no
            refine lv_aload_n hx hb dX7_controls_113 rfl (lv_at hl 1 rfl) ?_
            refine va_get (D := gD Γ) (cl := vwCl) (tys := gTy Γ) (ci := 7) (v := .ref (a (b + 1))) (C := RX7) (T := TX7) (N := 18) hx hb hts iX7_controls_7 hown hK hP 0 rfl rfl 0 (Nat.le_of_ble_eq_true rfl) (hts (.fieldLink RX7 7 "DeadTimeLoopModel" "now" "[J") (List.mem_of_getElem? (i := 1) rfl)) (fun _ h9 => h9) rfl dX7_controls_114 ?_
            refine lv_sipush (v := 645) hx hb dX7_controls_117 (by decide) ?_
            refine ka_lald (D := gD Γ) (cl := vwCl) (tys := gTy Γ) hx hb hK hP 1 1 rfl rfl 645 (by decide) (by decide) (by decide) (v := ((mNow μ) 645)) rfl dX7_controls_120 ?_
            refine lv_aload_n hx hb dX7_controls_121 rfl (lv_at hl 1 rfl) ?_
            refine va_get (D := gD Γ) (cl := vwCl) (tys := gTy Γ) (ci := 7) (v := .ref (a (b + 1))) (C := RX7) (T := TX7) (N := 18) hx hb hts iX7_controls_7 hown hK hP 0 rfl rfl 0 (Nat.le_of_ble_eq_true rfl) (hts (.fieldLink RX7 7 "DeadTimeLoopModel" "now" "[J") (List.mem_of_getElem? (i := 1) rfl)) (fun _ h9 => h9) rfl dX7_controls_122 ?_
            refine lv_sipush (v := 646) hx hb dX7_controls_125 (by decide) ?_
            refine ka_lald (D := gD Γ) (cl := vwCl) (tys := gTy Γ) hx hb hK hP 1 1 rfl rfl 646 (by decide) (by decide) (by decide) (v := ((mNow μ) 646)) rfl dX7_controls_128 ?_
            refine lv_ladd hx hb dX7_controls_129 ?_
            refine lv_goto (tgt := 141) hx hb dX7_controls_130 (by decide) ?_
            exact hJ_141 _ (by simp only [mFb, c_110, if_true, if_false]) _ _ _ hP hD hS (lv_sub hl [1, 2, 3, 4, 0] rfl)
        refine lv_iload_n hx hb dX7_controls_76 rfl (lv_at hl 3 rfl) ?_
        refine lv_if_eq (tgt := 90) hx hb dX7_controls_77 (by decide) (fun c_77 => ?_) (fun c_77 => ?_)
        · -- yes
          refine lv_aload_n hx hb dX7_controls_90 rfl (lv_at hl 1 rfl) ?_
          refine va_get (D := gD Γ) (cl := vwCl) (tys := gTy Γ) (ci := 7) (v := .ref (a (b + 4))) (C := RX7) (T := TX7) (N := 18) hx hb hts iX7_controls_7 hown hK hP 0 rfl rfl 4 (Nat.le_of_ble_eq_true rfl) (hts (.fieldLink RX7 19 "DeadTimeLoopModel" "par" "[I") (List.mem_of_getElem? (i := 3) rfl)) (fun _ h9 => h9) rfl dX7_controls_91 ?_
          refine lv_iconst (v := 1) hx hb dX7_controls_94 (by decide) ?_
          refine ka_iald (D := gD Γ) (cl := vwCl) (tys := gTy Γ) hx hb hK hP 4 0 rfl rfl 1 (by decide) (by decide) (by decide) (v := ((mPar μ) 1)) rfl dX7_controls_95 ?_
          refine lv_iconst (v := 4) hx hb dX7_controls_96 (by decide) ?_
          refine lv_idiv hx hb dX7_controls_97 (by decide) ?_
          refine lv_i2l (v := (((mPar μ) 1) / 4).toInt64) hx hb dX7_controls_98 rfl ?_
          exact hJ_99 _ (by simp only [mKi, c_77, if_true, if_false]) _ _ _ hP hD hS (lv_sub hl [1, 2, 3, 0] rfl)
        · -- no
          refine lv_aload_n hx hb dX7_controls_80 rfl (lv_at hl 1 rfl) ?_
          refine va_get (D := gD Γ) (cl := vwCl) (tys := gTy Γ) (ci := 7) (v := .ref (a (b + 4))) (C := RX7) (T := TX7) (N := 18) hx hb hts iX7_controls_7 hown hK hP 0 rfl rfl 4 (Nat.le_of_ble_eq_true rfl) (hts (.fieldLink RX7 19 "DeadTimeLoopModel" "par" "[I") (List.mem_of_getElem? (i := 3) rfl)) (fun _ h9 => h9) rfl dX7_controls_81 ?_
          refine lv_iconst (v := 1) hx hb dX7_controls_84 (by decide) ?_
          refine ka_iald (D := gD Γ) (cl := vwCl) (tys := gTy Γ) hx hb hK hP 4 0 rfl rfl 1 (by decide) (by decide) (by decide) (v := ((mPar μ) 1)) rfl dX7_controls_85 ?_
          refine lv_i2l (v := ((mPar μ) 1).toInt64) hx hb dX7_controls_86 rfl ?_
          refine lv_goto (tgt := 99) hx hb dX7_controls_87 (by decide) ?_
          exact hJ_99 _ (by simp only [mKi, c_77, if_true, if_false]) _ _ _ hP hD hS (lv_sub hl [1, 2, 3, 0] rfl)
      refine lv_iload_n hx hb dX7_controls_52 rfl (lv_at hl 0 rfl) ?_
      refine lv_if_eq (tgt := 66) hx hb dX7_controls_53 (by decide) (fun c_53 => ?_) (fun c_53 => ?_)
      · -- yes
        refine lv_aload_n hx hb dX7_controls_66 rfl (lv_at hl 1 rfl) ?_
        refine va_get (D := gD Γ) (cl := vwCl) (tys := gTy Γ) (ci := 7) (v := .ref (a (b + 4))) (C := RX7) (T := TX7) (N := 18) hx hb hts iX7_controls_7 hown hK hP 0 rfl rfl 4 (Nat.le_of_ble_eq_true rfl) (hts (.fieldLink RX7 19 "DeadTimeLoopModel" "par" "[I") (List.mem_of_getElem? (i := 3) rfl)) (fun _ h9 => h9) rfl dX7_controls_67 ?_
        refine lv_iconst (v := 0) hx hb dX7_controls_70 (by decide) ?_
        refine ka_iald (D := gD Γ) (cl := vwCl) (tys := gTy Γ) hx hb hK hP 4 0 rfl rfl 0 (by decide) (by decide) (by decide) (v := ((mPar μ) 0)) rfl dX7_controls_71 ?_
        refine lv_iconst (v := 2) hx hb dX7_controls_72 (by decide) ?_
        refine lv_idiv hx hb dX7_controls_73 (by decide) ?_
        refine lv_i2l (v := (((mPar μ) 0) / 2).toInt64) hx hb dX7_controls_74 rfl ?_
        exact hJ_75 _ (by simp only [mKp, c_53, if_true, if_false]) _ _ _ hP hD hS (lv_sub hl [1, 2, 0] rfl)
      · -- no
        refine lv_aload_n hx hb dX7_controls_56 rfl (lv_at hl 1 rfl) ?_
        refine va_get (D := gD Γ) (cl := vwCl) (tys := gTy Γ) (ci := 7) (v := .ref (a (b + 4))) (C := RX7) (T := TX7) (N := 18) hx hb hts iX7_controls_7 hown hK hP 0 rfl rfl 4 (Nat.le_of_ble_eq_true rfl) (hts (.fieldLink RX7 19 "DeadTimeLoopModel" "par" "[I") (List.mem_of_getElem? (i := 3) rfl)) (fun _ h9 => h9) rfl dX7_controls_57 ?_
        refine lv_iconst (v := 0) hx hb dX7_controls_60 (by decide) ?_
        refine ka_iald (D := gD Γ) (cl := vwCl) (tys := gTy Γ) hx hb hK hP 4 0 rfl rfl 0 (by decide) (by decide) (by decide) (v := ((mPar μ) 0)) rfl dX7_controls_61 ?_
        refine lv_i2l (v := ((mPar μ) 0).toInt64) hx hb dX7_controls_62 rfl ?_
        refine lv_goto (tgt := 75) hx hb dX7_controls_63 (by decide) ?_
        exact hJ_75 _ (by simp only [mKp, c_53, if_true, if_false]) _ _ _ hP hD hS (lv_sub hl [1, 2, 0] rfl)
    refine lv_aload_n hx hb dX7_controls_26 rfl (lv_at hl 1 rfl) ?_
    refine va_get (D := gD Γ) (cl := vwCl) (tys := gTy Γ) (ci := 7) (v := .ref (a (b + 1))) (C := RX7) (T := TX7) (N := 18) hx hb hts iX7_controls_7 hown hK hP 0 rfl rfl 0 (Nat.le_of_ble_eq_true rfl) (hts (.fieldLink RX7 7 "DeadTimeLoopModel" "now" "[J") (List.mem_of_getElem? (i := 1) rfl)) (fun _ h9 => h9) rfl dX7_controls_27 ?_
    refine lv_sipush (v := 648) hx hb dX7_controls_30 (by decide) ?_
    refine ka_lald (D := gD Γ) (cl := vwCl) (tys := gTy Γ) hx hb hK hP 1 1 rfl rfl 648 (by decide) (by decide) (by decide) (v := ((mNow μ) 648)) rfl dX7_controls_33 ?_
    refine lv_lconst (v := 0) hx hb dX7_controls_34 (by decide) ?_
    refine W.lcmp hx hb dX7_controls_35 ?_
    refine lv_if_eq (tgt := 46) hx hb dX7_controls_36 (by decide) (fun c_36 => ?_) (fun c_36 => ?_)
    · -- yes
      have c_36 := (lg_cmp_eq _ _).mp c_36
      refine lv_iconst (v := 1) hx hb dX7_controls_46 (by decide) ?_
      refine lv_goto (tgt := 51) hx hb dX7_controls_47 (by decide) ?_
      exact hJ_51 _ (by simp only [mFul, c_36, if_true, if_false]) _ _ _ hP hD hS (lv_sub hl [1, 0] rfl)
    · -- no
      have c_36 := mt (lg_cmp_eq _ _).mpr c_36
      refine lv_aload_n hx hb dX7_controls_39 rfl (lv_at hl 1 rfl) ?_
      refine va_get (D := gD Γ) (cl := vwCl) (tys := gTy Γ) (ci := 7) (v := .int (mIdeal μ)) (C := RX7) (T := TX7) (N := 18) hx hb hts iX7_controls_7 hown hK hP 0 rfl rfl 14 (Nat.le_of_ble_eq_true rfl) (hts (.fieldLink RX7 156 "DeadTimeLoopModel" "isIdeal" "Z") (List.mem_of_getElem? (i := 2) rfl)) (fun _ h9 => h9) rfl dX7_controls_40 ?_
      refine lv_if_eq (tgt := 50) hx hb dX7_controls_43 (by decide) (fun c_43 => ?_) (fun c_43 => ?_)
      · -- yes
        refine lv_iconst (v := 0) hx hb dX7_controls_50 (by decide) ?_
        exact hJ_51 _ (by simp only [mFul, c_36, c_43, if_true, if_false]) _ _ _ hP hD hS (lv_sub hl [1, 0] rfl)
      · -- no
        refine lv_iconst (v := 1) hx hb dX7_controls_46 (by decide) ?_
        refine lv_goto (tgt := 51) hx hb dX7_controls_47 (by decide) ?_
        exact hJ_51 _ (by simp only [mFul, c_36, c_43, if_true, if_false]) _ _ _ hP hD hS (lv_sub hl [1, 0] rfl)
  refine lv_aload_n hx hb dX7_controls_0 rfl (lv_at hl 0 rfl) ?_
  refine va_get (D := gD Γ) (cl := vwCl) (tys := gTy Γ) (ci := 7) (v := .ref (a (b + 1))) (C := RX7) (T := TX7) (N := 18) hx hb hts iX7_controls_7 hown hK hP 0 rfl rfl 0 (Nat.le_of_ble_eq_true rfl) (hts (.fieldLink RX7 7 "DeadTimeLoopModel" "now" "[J") (List.mem_of_getElem? (i := 1) rfl)) (fun _ h9 => h9) rfl dX7_controls_1 ?_
  refine lv_sipush (v := 648) hx hb dX7_controls_4 (by decide) ?_
  refine ka_lald (D := gD Γ) (cl := vwCl) (tys := gTy Γ) hx hb hK hP 1 1 rfl rfl 648 (by decide) (by decide) (by decide) (v := ((mNow μ) 648)) rfl dX7_controls_7 ?_
  refine lv_lconst (v := 0) hx hb dX7_controls_8 (by decide) ?_
  refine W.lcmp hx hb dX7_controls_9 ?_
  refine lv_if_ne (tgt := 24) hx hb dX7_controls_10 (by decide) (fun c_10 => ?_) (fun c_10 => ?_)
  · -- yes
    have c_10 := mt (lg_cmp_eq _ _).mpr c_10
    refine lv_iconst (v := 0) hx hb dX7_controls_24 (by decide) ?_
    exact hJ_25 _ (by simp only [mMod, c_10, if_true, if_false]) _ _ _ hP hD hS (lv_sub hl [0] rfl)
  · -- no
    have c_10 := (lg_cmp_eq _ _).mp c_10
    refine lv_aload_n hx hb dX7_controls_13 rfl (lv_at hl 0 rfl) ?_
    refine va_get (D := gD Γ) (cl := vwCl) (tys := gTy Γ) (ci := 7) (v := .int (mIdeal μ)) (C := RX7) (T := TX7) (N := 18) hx hb hts iX7_controls_7 hown hK hP 0 rfl rfl 14 (Nat.le_of_ble_eq_true rfl) (hts (.fieldLink RX7 156 "DeadTimeLoopModel" "isIdeal" "Z") (List.mem_of_getElem? (i := 2) rfl)) (fun _ h9 => h9) rfl dX7_controls_14 ?_
    refine lv_if_ne (tgt := 24) hx hb dX7_controls_17 (by decide) (fun c_17 => ?_) (fun c_17 => ?_)
    · -- yes
      refine lv_iconst (v := 0) hx hb dX7_controls_24 (by decide) ?_
      exact hJ_25 _ (by simp only [mMod, c_10, c_17, if_true, if_false]) _ _ _ hP hD hS (lv_sub hl [0] rfl)
    · -- no
      refine lv_iconst (v := 1) hx hb dX7_controls_20 (by decide) ?_
      refine lv_goto (tgt := 25) hx hb dX7_controls_21 (by decide) ?_
      exact hJ_25 _ (by simp only [mMod, c_10, c_17, if_true, if_false]) _ _ _ hP hD hS (lv_sub hl [0] rfl)
def rm_X7_measures : Room := { frames := 1, cells := 0, slots := 0, locals := 21 }
theorem iX7_measures_7 : ∀ w ∈ u_ws RX7 TX7 18, w ∈ wsX7_measures := fun w h => (List.mem_cons_of_mem _ (List.mem_append_right _ h))
set_option maxHeartbeats 1000000 in
set_option maxRecDepth 100000 in
theorem c_X7_measures (Γ : gT) (l : Launch) (a : Nat → Nat) (b : Nat) (μ : Mst)  : Cv Γ l yX7_measures wsX7_measures rm_X7_measures [.ref (a b)] (modW Γ a b μ) (modW Γ a b (mPut_now μ (mMea (mNow μ)))) := by
  refine Cv.of (cc := cX7_measures) (own := RX7) (nL := 3) (ret := none) (by decide +kernel) rfl rfl (Nat.le_of_ble_eq_true rfl) ?_
  intro p e s m args below meth c A Q H locs ls ha hAe hQ hx hb hml hr hts hown hlk hP hK hD hS hA hG hl
  have hh : Hd Γ p s m args c cX7_measures RX7 3 wsX7_measures A := ⟨⟨hx, hb, hml, hown, hts⟩, hK, hA, hG⟩
  have hl : lv_has ls 3 [(0, .ref (a b))] := hl
  refine lv_aload_n hx hb dX7_measures_0 rfl (lv_at hl 0 rfl) ?_
  refine va_get (D := gD Γ) (cl := vwCl) (tys := gTy Γ) (ci := 7) (v := .ref (a (b + 1))) (C := RX7) (T := TX7) (N := 18) hx hb hts iX7_measures_7 hown hK hP 0 rfl rfl 0 (Nat.le_of_ble_eq_true rfl) (hts (.fieldLink RX7 7 "DeadTimeLoopModel" "now" "[J") (List.mem_of_getElem? (i := 1) rfl)) (fun _ h9 => h9) rfl dX7_measures_1 ?_
  refine lv_sipush (v := 641) hx hb dX7_measures_4 (by decide) ?_
  refine ka_lald (D := gD Γ) (cl := vwCl) (tys := gTy Γ) hx hb hK hP 1 1 rfl rfl 641 (by decide) (by decide) (by decide) (v := ((mNow μ) 641)) rfl dX7_measures_7 ?_
  refine lv_aload_n hx hb dX7_measures_8 rfl (lv_at hl 0 rfl) ?_
  refine va_get (D := gD Γ) (cl := vwCl) (tys := gTy Γ) (ci := 7) (v := .ref (a (b + 1))) (C := RX7) (T := TX7) (N := 18) hx hb hts iX7_measures_7 hown hK hP 0 rfl rfl 0 (Nat.le_of_ble_eq_true rfl) (hts (.fieldLink RX7 7 "DeadTimeLoopModel" "now" "[J") (List.mem_of_getElem? (i := 1) rfl)) (fun _ h9 => h9) rfl dX7_measures_9 ?_
  refine lv_sipush (v := 655) hx hb dX7_measures_12 (by decide) ?_
  refine ka_lald (D := gD Γ) (cl := vwCl) (tys := gTy Γ) hx hb hK hP 1 1 rfl rfl 655 (by decide) (by decide) (by decide) (v := ((mNow μ) 655)) rfl dX7_measures_15 ?_
  refine W.lcmp hx hb dX7_measures_16 ?_
  refine lv_if_lt (tgt := 40) hx hb dX7_measures_17 (by decide) (fun c_17 => ?_) (fun c_17 => ?_)
  · -- yes
    have c_17 := (lg_cmp_lt _ _).mp c_17
    refine lv_aload_n hx hb dX7_measures_40 rfl (lv_at hl 0 rfl) ?_
    refine va_get (D := gD Γ) (cl := vwCl) (tys := gTy Γ) (ci := 7) (v := .ref (a (b + 1))) (C := RX7) (T := TX7) (N := 18) hx hb hts iX7_measures_7 hown hK hP 0 rfl rfl 0 (Nat.le_of_ble_eq_true rfl) (hts (.fieldLink RX7 7 "DeadTimeLoopModel" "now" "[J") (List.mem_of_getElem? (i := 1) rfl)) (fun _ h9 => h9) rfl dX7_measures_41 ?_
    refine lv_sipush (v := 641) hx hb dX7_measures_44 (by decide) ?_
    refine ka_lald (D := gD Γ) (cl := vwCl) (tys := gTy Γ) hx hb hK hP 1 1 rfl rfl 641 (by decide) (by decide) (by decide) (v := ((mNow μ) 641)) rfl dX7_measures_47 ?_
    refine lv_aload_n hx hb dX7_measures_48 rfl (lv_at hl 0 rfl) ?_
    refine va_get (D := gD Γ) (cl := vwCl) (tys := gTy Γ) (ci := 7) (v := .ref (a (b + 1))) (C := RX7) (T := TX7) (N := 18) hx hb hts iX7_measures_7 hown hK hP 0 rfl rfl 0 (Nat.le_of_ble_eq_true rfl) (hts (.fieldLink RX7 7 "DeadTimeLoopModel" "now" "[J") (List.mem_of_getElem? (i := 1) rfl)) (fun _ h9 => h9) rfl dX7_measures_49 ?_
    refine lv_sipush (v := 652) hx hb dX7_measures_52 (by decide) ?_
    refine ka_lald (D := gD Γ) (cl := vwCl) (tys := gTy Γ) hx hb hK hP 1 1 rfl rfl 652 (by decide) (by decide) (by decide) (v := ((mNow μ) 652)) rfl dX7_measures_55 ?_
    refine lv_lsub hx hb dX7_measures_56 ?_
    refine lv_lstore_n (lv' := [(1, .long (((mNow μ) 641) - ((mNow μ) 652))), (0, .ref (a b))]) hx hb dX7_measures_57 rfl hl (by decide) rfl (fun ls hl => ?_)
    refine lv_aload_n hx hb dX7_measures_58 rfl (lv_at hl 1 rfl) ?_
    refine va_get (D := gD Γ) (cl := vwCl) (tys := gTy Γ) (ci := 7) (v := .ref (a (b + 1))) (C := RX7) (T := TX7) (N := 18) hx hb hts iX7_measures_7 hown hK hP 0 rfl rfl 0 (Nat.le_of_ble_eq_true rfl) (hts (.fieldLink RX7 7 "DeadTimeLoopModel" "now" "[J") (List.mem_of_getElem? (i := 1) rfl)) (fun _ h9 => h9) rfl dX7_measures_59 ?_
    refine lv_sipush (v := 658) hx hb dX7_measures_62 (by decide) ?_
    refine lv_lload_n hx hb dX7_measures_65 rfl (lv_at hl 0 rfl) ?_
    refine lv_aload_n hx hb dX7_measures_66 rfl (lv_at hl 1 rfl) ?_
    refine va_get (D := gD Γ) (cl := vwCl) (tys := gTy Γ) (ci := 7) (v := .ref (a (b + 1))) (C := RX7) (T := TX7) (N := 18) hx hb hts iX7_measures_7 hown hK hP 0 rfl rfl 0 (Nat.le_of_ble_eq_true rfl) (hts (.fieldLink RX7 7 "DeadTimeLoopModel" "now" "[J") (List.mem_of_getElem? (i := 1) rfl)) (fun _ h9 => h9) rfl dX7_measures_67 ?_
    refine lv_sipush (v := 658) hx hb dX7_measures_70 (by decide) ?_
    refine ka_lald (D := gD Γ) (cl := vwCl) (tys := gTy Γ) hx hb hK hP 1 1 rfl rfl 658 (by decide) (by decide) (by decide) (v := ((mNow μ) 658)) rfl dX7_measures_73 ?_
    refine W.lcmp hx hb dX7_measures_74 ?_
    refine lv_if_le (tgt := 82) hx hb dX7_measures_75 (by decide) (fun c_75 => ?_) (fun c_75 => ?_)
    · -- yes
      have c_75 := (lg_cmp_le _ _).mp c_75
      refine lv_aload_n hx hb dX7_measures_82 rfl (lv_at hl 1 rfl) ?_
      refine va_get (D := gD Γ) (cl := vwCl) (tys := gTy Γ) (ci := 7) (v := .ref (a (b + 1))) (C := RX7) (T := TX7) (N := 18) hx hb hts iX7_measures_7 hown hK hP 0 rfl rfl 0 (Nat.le_of_ble_eq_true rfl) (hts (.fieldLink RX7 7 "DeadTimeLoopModel" "now" "[J") (List.mem_of_getElem? (i := 1) rfl)) (fun _ h9 => h9) rfl dX7_measures_83 ?_
      refine lv_sipush (v := 658) hx hb dX7_measures_86 (by decide) ?_
      refine ka_lald (D := gD Γ) (cl := vwCl) (tys := gTy Γ) hx hb hK hP 1 1 rfl rfl 658 (by decide) (by decide) (by decide) (v := ((mNow μ) 658)) rfl dX7_measures_89 ?_
      refine ka_last (D := gD Γ) (cl := vwCl) (tys := gTy Γ) hx hb hK hP hD hS 1 1 rfl rfl 658 (by decide) (by decide) (by decide) (wf := modW Γ a b ((vp_updL (mNow μ) 658 ((mNow μ) 658)), (mAside μ), (mKept μ), (mKm μ), (mPar μ), (mParA μ), (mBef μ), (mUm μ), (mLow μ), (mHigh μ), (mNames μ), (mLen μ), (mText μ), (mPath μ), (mIdeal μ), (mSpot μ), (mWhich μ), (mNum μ))) rfl dX7_measures_90 (fun H locs hP hD hS => ?_)
      refine lv_aload_n hx hb dX7_measures_91 rfl (lv_at hl 1 rfl) ?_
      refine va_get (D := gD Γ) (cl := vwCl) (tys := gTy Γ) (ci := 7) (v := .ref (a (b + 1))) (C := RX7) (T := TX7) (N := 18) hx hb hts iX7_measures_7 hown hK hP 0 rfl rfl 0 (Nat.le_of_ble_eq_true rfl) (hts (.fieldLink RX7 7 "DeadTimeLoopModel" "now" "[J") (List.mem_of_getElem? (i := 1) rfl)) (fun _ h9 => h9) rfl dX7_measures_92 ?_
      refine lv_sipush (v := 656) hx hb dX7_measures_95 (by decide) ?_
      refine lv_dup2_11 hx hb dX7_measures_98 rfl rfl ?_
      refine ka_lald (D := gD Γ) (cl := vwCl) (tys := gTy Γ) hx hb hK hP 1 1 rfl rfl 656 (by decide) (by decide) (by decide) (v := ((mNow μ) 656)) rfl dX7_measures_99 ?_
      refine lv_aload_n hx hb dX7_measures_100 rfl (lv_at hl 1 rfl) ?_
      refine va_get (D := gD Γ) (cl := vwCl) (tys := gTy Γ) (ci := 7) (v := .ref (a (b + 1))) (C := RX7) (T := TX7) (N := 18) hx hb hts iX7_measures_7 hown hK hP 0 rfl rfl 0 (Nat.le_of_ble_eq_true rfl) (hts (.fieldLink RX7 7 "DeadTimeLoopModel" "now" "[J") (List.mem_of_getElem? (i := 1) rfl)) (fun _ h9 => h9) rfl dX7_measures_101 ?_
      refine lv_sipush (v := 641) hx hb dX7_measures_104 (by decide) ?_
      refine ka_lald (D := gD Γ) (cl := vwCl) (tys := gTy Γ) hx hb hK hP 1 1 rfl rfl 641 (by decide) (by decide) (by decide) (v := ((mNow μ) 641)) rfl dX7_measures_107 ?_
      refine lv_aload_n hx hb dX7_measures_108 rfl (lv_at hl 1 rfl) ?_
      refine va_get (D := gD Γ) (cl := vwCl) (tys := gTy Γ) (ci := 7) (v := .ref (a (b + 1))) (C := RX7) (T := TX7) (N := 18) hx hb hts iX7_measures_7 hown hK hP 0 rfl rfl 0 (Nat.le_of_ble_eq_true rfl) (hts (.fieldLink RX7 7 "DeadTimeLoopModel" "now" "[J") (List.mem_of_getElem? (i := 1) rfl)) (fun _ h9 => h9) rfl dX7_measures_109 ?_
      refine lv_sipush (v := 652) hx hb dX7_measures_112 (by decide) ?_
      refine ka_lald (D := gD Γ) (cl := vwCl) (tys := gTy Γ) hx hb hK hP 1 1 rfl rfl 652 (by decide) (by decide) (by decide) (v := ((mNow μ) 652)) rfl dX7_measures_115 ?_
      refine lv_lsub hx hb dX7_measures_116 ?_
      refine ca_Sl hh hl.1 (c_X7_size Γ l (((mNow μ) 641) - ((mNow μ) 652))) (va_cwS 1 hts gX7_measures_X7_size rfl rfl rfl (by decide +kernel) ⟨(Nat.le_of_ble_eq_true rfl), (Nat.le_of_ble_eq_true rfl)⟩) (As := [.long (((mNow μ) 641) - ((mNow μ) 652))]) (rest := [.long ((mNow μ) 656), .int 656, .ref (a (b + 1))]) rfl dX7_measures_117 rfl (Nat.le_of_ble_eq_true rfl) hP hD hS ⟨Nat.zero_le _, Nat.zero_le _⟩ (fun H locs hP hS => ?_)
      refine lv_ladd hx hb dX7_measures_120 ?_
      refine ka_last (D := gD Γ) (cl := vwCl) (tys := gTy Γ) hx hb hK hP hD hS 1 1 rfl rfl 656 (by decide) (by decide) (by decide) (wf := modW Γ a b ((vp_updL (vp_updL (mNow μ) 658 ((mNow μ) 658)) 656 (((mNow μ) 656) + (mSize (((mNow μ) 641) - ((mNow μ) 652))))), (mAside μ), (mKept μ), (mKm μ), (mPar μ), (mParA μ), (mBef μ), (mUm μ), (mLow μ), (mHigh μ), (mNames μ), (mLen μ), (mText μ), (mPath μ), (mIdeal μ), (mSpot μ), (mWhich μ), (mNum μ))) rfl dX7_measures_121 (fun H locs hP hD hS => ?_)
      refine lv_aload_n hx hb dX7_measures_122 rfl (lv_at hl 1 rfl) ?_
      refine va_get (D := gD Γ) (cl := vwCl) (tys := gTy Γ) (ci := 7) (v := .ref (a (b + 1))) (C := RX7) (T := TX7) (N := 18) hx hb hts iX7_measures_7 hown hK hP 0 rfl rfl 0 (Nat.le_of_ble_eq_true rfl) (hts (.fieldLink RX7 7 "DeadTimeLoopModel" "now" "[J") (List.mem_of_getElem? (i := 1) rfl)) (fun _ h9 => h9) rfl dX7_measures_123 ?_
      refine lv_sipush (v := 659) hx hb dX7_measures_126 (by decide) ?_
      refine lv_dup2_11 hx hb dX7_measures_129 rfl rfl ?_
      refine ka_lald (D := gD Γ) (cl := vwCl) (tys := gTy Γ) hx hb hK hP 1 1 rfl rfl 659 (by decide) (by decide) (by decide) (v := ((mNow μ) 659)) rfl dX7_measures_130 ?_
      refine lv_lconst (v := 1) hx hb dX7_measures_131 (by decide) ?_
      refine lv_ladd hx hb dX7_measures_132 ?_
      refine ka_last (D := gD Γ) (cl := vwCl) (tys := gTy Γ) hx hb hK hP hD hS 1 1 rfl rfl 659 (by decide) (by decide) (by decide) (wf := modW Γ a b ((vp_updL (vp_updL (vp_updL (mNow μ) 658 ((mNow μ) 658)) 656 (((mNow μ) 656) + (mSize (((mNow μ) 641) - ((mNow μ) 652))))) 659 (((mNow μ) 659) + 1)), (mAside μ), (mKept μ), (mKm μ), (mPar μ), (mParA μ), (mBef μ), (mUm μ), (mLow μ), (mHigh μ), (mNames μ), (mLen μ), (mText μ), (mPath μ), (mIdeal μ), (mSpot μ), (mWhich μ), (mNum μ))) rfl dX7_measures_133 (fun H locs hP hD hS => ?_)
      exact re_v hQ ha hx hb hr hlk hAe hP hS dX7_measures_134 (by simp only [mMea, mMea1, mOv, mPut_now, c_17, c_75, if_true, if_false, i32_10])
    · -- no
      have c_75 := mt (lg_cmp_le _ _).mpr c_75
      refine lv_lload_n hx hb dX7_measures_78 rfl (lv_at hl 0 rfl) ?_
      refine lv_goto (tgt := 90) hx hb dX7_measures_79 (by decide) ?_
      refine ka_last (D := gD Γ) (cl := vwCl) (tys := gTy Γ) hx hb hK hP hD hS 1 1 rfl rfl 658 (by decide) (by decide) (by decide) (wf := modW Γ a b ((vp_updL (mNow μ) 658 (((mNow μ) 641) - ((mNow μ) 652))), (mAside μ), (mKept μ), (mKm μ), (mPar μ), (mParA μ), (mBef μ), (mUm μ), (mLow μ), (mHigh μ), (mNames μ), (mLen μ), (mText μ), (mPath μ), (mIdeal μ), (mSpot μ), (mWhich μ), (mNum μ))) rfl dX7_measures_90 (fun H locs hP hD hS => ?_)
      refine lv_aload_n hx hb dX7_measures_91 rfl (lv_at hl 1 rfl) ?_
      refine va_get (D := gD Γ) (cl := vwCl) (tys := gTy Γ) (ci := 7) (v := .ref (a (b + 1))) (C := RX7) (T := TX7) (N := 18) hx hb hts iX7_measures_7 hown hK hP 0 rfl rfl 0 (Nat.le_of_ble_eq_true rfl) (hts (.fieldLink RX7 7 "DeadTimeLoopModel" "now" "[J") (List.mem_of_getElem? (i := 1) rfl)) (fun _ h9 => h9) rfl dX7_measures_92 ?_
      refine lv_sipush (v := 656) hx hb dX7_measures_95 (by decide) ?_
      refine lv_dup2_11 hx hb dX7_measures_98 rfl rfl ?_
      refine ka_lald (D := gD Γ) (cl := vwCl) (tys := gTy Γ) hx hb hK hP 1 1 rfl rfl 656 (by decide) (by decide) (by decide) (v := ((mNow μ) 656)) rfl dX7_measures_99 ?_
      refine lv_aload_n hx hb dX7_measures_100 rfl (lv_at hl 1 rfl) ?_
      refine va_get (D := gD Γ) (cl := vwCl) (tys := gTy Γ) (ci := 7) (v := .ref (a (b + 1))) (C := RX7) (T := TX7) (N := 18) hx hb hts iX7_measures_7 hown hK hP 0 rfl rfl 0 (Nat.le_of_ble_eq_true rfl) (hts (.fieldLink RX7 7 "DeadTimeLoopModel" "now" "[J") (List.mem_of_getElem? (i := 1) rfl)) (fun _ h9 => h9) rfl dX7_measures_101 ?_
      refine lv_sipush (v := 641) hx hb dX7_measures_104 (by decide) ?_
      refine ka_lald (D := gD Γ) (cl := vwCl) (tys := gTy Γ) hx hb hK hP 1 1 rfl rfl 641 (by decide) (by decide) (by decide) (v := ((mNow μ) 641)) rfl dX7_measures_107 ?_
      refine lv_aload_n hx hb dX7_measures_108 rfl (lv_at hl 1 rfl) ?_
      refine va_get (D := gD Γ) (cl := vwCl) (tys := gTy Γ) (ci := 7) (v := .ref (a (b + 1))) (C := RX7) (T := TX7) (N := 18) hx hb hts iX7_measures_7 hown hK hP 0 rfl rfl 0 (Nat.le_of_ble_eq_true rfl) (hts (.fieldLink RX7 7 "DeadTimeLoopModel" "now" "[J") (List.mem_of_getElem? (i := 1) rfl)) (fun _ h9 => h9) rfl dX7_measures_109 ?_
      refine lv_sipush (v := 652) hx hb dX7_measures_112 (by decide) ?_
      refine ka_lald (D := gD Γ) (cl := vwCl) (tys := gTy Γ) hx hb hK hP 1 1 rfl rfl 652 (by decide) (by decide) (by decide) (v := ((mNow μ) 652)) rfl dX7_measures_115 ?_
      refine lv_lsub hx hb dX7_measures_116 ?_
      refine ca_Sl hh hl.1 (c_X7_size Γ l (((mNow μ) 641) - ((mNow μ) 652))) (va_cwS 1 hts gX7_measures_X7_size rfl rfl rfl (by decide +kernel) ⟨(Nat.le_of_ble_eq_true rfl), (Nat.le_of_ble_eq_true rfl)⟩) (As := [.long (((mNow μ) 641) - ((mNow μ) 652))]) (rest := [.long ((mNow μ) 656), .int 656, .ref (a (b + 1))]) rfl dX7_measures_117 rfl (Nat.le_of_ble_eq_true rfl) hP hD hS ⟨Nat.zero_le _, Nat.zero_le _⟩ (fun H locs hP hS => ?_)
      refine lv_ladd hx hb dX7_measures_120 ?_
      refine ka_last (D := gD Γ) (cl := vwCl) (tys := gTy Γ) hx hb hK hP hD hS 1 1 rfl rfl 656 (by decide) (by decide) (by decide) (wf := modW Γ a b ((vp_updL (vp_updL (mNow μ) 658 (((mNow μ) 641) - ((mNow μ) 652))) 656 (((mNow μ) 656) + (mSize (((mNow μ) 641) - ((mNow μ) 652))))), (mAside μ), (mKept μ), (mKm μ), (mPar μ), (mParA μ), (mBef μ), (mUm μ), (mLow μ), (mHigh μ), (mNames μ), (mLen μ), (mText μ), (mPath μ), (mIdeal μ), (mSpot μ), (mWhich μ), (mNum μ))) rfl dX7_measures_121 (fun H locs hP hD hS => ?_)
      refine lv_aload_n hx hb dX7_measures_122 rfl (lv_at hl 1 rfl) ?_
      refine va_get (D := gD Γ) (cl := vwCl) (tys := gTy Γ) (ci := 7) (v := .ref (a (b + 1))) (C := RX7) (T := TX7) (N := 18) hx hb hts iX7_measures_7 hown hK hP 0 rfl rfl 0 (Nat.le_of_ble_eq_true rfl) (hts (.fieldLink RX7 7 "DeadTimeLoopModel" "now" "[J") (List.mem_of_getElem? (i := 1) rfl)) (fun _ h9 => h9) rfl dX7_measures_123 ?_
      refine lv_sipush (v := 659) hx hb dX7_measures_126 (by decide) ?_
      refine lv_dup2_11 hx hb dX7_measures_129 rfl rfl ?_
      refine ka_lald (D := gD Γ) (cl := vwCl) (tys := gTy Γ) hx hb hK hP 1 1 rfl rfl 659 (by decide) (by decide) (by decide) (v := ((mNow μ) 659)) rfl dX7_measures_130 ?_
      refine lv_lconst (v := 1) hx hb dX7_measures_131 (by decide) ?_
      refine lv_ladd hx hb dX7_measures_132 ?_
      refine ka_last (D := gD Γ) (cl := vwCl) (tys := gTy Γ) hx hb hK hP hD hS 1 1 rfl rfl 659 (by decide) (by decide) (by decide) (wf := modW Γ a b ((vp_updL (vp_updL (vp_updL (mNow μ) 658 (((mNow μ) 641) - ((mNow μ) 652))) 656 (((mNow μ) 656) + (mSize (((mNow μ) 641) - ((mNow μ) 652))))) 659 (((mNow μ) 659) + 1)), (mAside μ), (mKept μ), (mKm μ), (mPar μ), (mParA μ), (mBef μ), (mUm μ), (mLow μ), (mHigh μ), (mNames μ), (mLen μ), (mText μ), (mPath μ), (mIdeal μ), (mSpot μ), (mWhich μ), (mNum μ))) rfl dX7_measures_133 (fun H locs hP hD hS => ?_)
      exact re_v hQ ha hx hb hr hlk hAe hP hS dX7_measures_134 (by simp only [mMea, mMea1, mOv, mPut_now, c_17, c_75, if_true, if_false, i32_10])
  · -- no
    have c_17 := mt (lg_cmp_lt _ _).mpr c_17
    refine lv_aload_n hx hb dX7_measures_20 rfl (lv_at hl 0 rfl) ?_
    refine va_get (D := gD Γ) (cl := vwCl) (tys := gTy Γ) (ci := 7) (v := .ref (a (b + 1))) (C := RX7) (T := TX7) (N := 18) hx hb hts iX7_measures_7 hown hK hP 0 rfl rfl 0 (Nat.le_of_ble_eq_true rfl) (hts (.fieldLink RX7 7 "DeadTimeLoopModel" "now" "[J") (List.mem_of_getElem? (i := 1) rfl)) (fun _ h9 => h9) rfl dX7_measures_21 ?_
    refine lv_sipush (v := 652) hx hb dX7_measures_24 (by decide) ?_
    refine ka_lald (D := gD Γ) (cl := vwCl) (tys := gTy Γ) hx hb hK hP 1 1 rfl rfl 652 (by decide) (by decide) (by decide) (v := ((mNow μ) 652)) rfl dX7_measures_27 ?_
    refine lv_aload_n hx hb dX7_measures_28 rfl (lv_at hl 0 rfl) ?_
    refine va_get (D := gD Γ) (cl := vwCl) (tys := gTy Γ) (ci := 7) (v := .ref (a (b + 1))) (C := RX7) (T := TX7) (N := 18) hx hb hts iX7_measures_7 hown hK hP 0 rfl rfl 0 (Nat.le_of_ble_eq_true rfl) (hts (.fieldLink RX7 7 "DeadTimeLoopModel" "now" "[J") (List.mem_of_getElem? (i := 1) rfl)) (fun _ h9 => h9) rfl dX7_measures_29 ?_
    refine lv_sipush (v := 641) hx hb dX7_measures_32 (by decide) ?_
    refine ka_lald (D := gD Γ) (cl := vwCl) (tys := gTy Γ) hx hb hK hP 1 1 rfl rfl 641 (by decide) (by decide) (by decide) (v := ((mNow μ) 641)) rfl dX7_measures_35 ?_
    refine lv_lsub hx hb dX7_measures_36 ?_
    refine lv_goto (tgt := 57) hx hb dX7_measures_37 (by decide) ?_
    refine lv_lstore_n (lv' := [(1, .long (((mNow μ) 652) - ((mNow μ) 641))), (0, .ref (a b))]) hx hb dX7_measures_57 rfl hl (by decide) rfl (fun ls hl => ?_)
    refine lv_aload_n hx hb dX7_measures_58 rfl (lv_at hl 1 rfl) ?_
    refine va_get (D := gD Γ) (cl := vwCl) (tys := gTy Γ) (ci := 7) (v := .ref (a (b + 1))) (C := RX7) (T := TX7) (N := 18) hx hb hts iX7_measures_7 hown hK hP 0 rfl rfl 0 (Nat.le_of_ble_eq_true rfl) (hts (.fieldLink RX7 7 "DeadTimeLoopModel" "now" "[J") (List.mem_of_getElem? (i := 1) rfl)) (fun _ h9 => h9) rfl dX7_measures_59 ?_
    refine lv_sipush (v := 658) hx hb dX7_measures_62 (by decide) ?_
    refine lv_lload_n hx hb dX7_measures_65 rfl (lv_at hl 0 rfl) ?_
    refine lv_aload_n hx hb dX7_measures_66 rfl (lv_at hl 1 rfl) ?_
    refine va_get (D := gD Γ) (cl := vwCl) (tys := gTy Γ) (ci := 7) (v := .ref (a (b + 1))) (C := RX7) (T := TX7) (N := 18) hx hb hts iX7_measures_7 hown hK hP 0 rfl rfl 0 (Nat.le_of_ble_eq_true rfl) (hts (.fieldLink RX7 7 "DeadTimeLoopModel" "now" "[J") (List.mem_of_getElem? (i := 1) rfl)) (fun _ h9 => h9) rfl dX7_measures_67 ?_
    refine lv_sipush (v := 658) hx hb dX7_measures_70 (by decide) ?_
    refine ka_lald (D := gD Γ) (cl := vwCl) (tys := gTy Γ) hx hb hK hP 1 1 rfl rfl 658 (by decide) (by decide) (by decide) (v := ((mNow μ) 658)) rfl dX7_measures_73 ?_
    refine W.lcmp hx hb dX7_measures_74 ?_
    refine lv_if_le (tgt := 82) hx hb dX7_measures_75 (by decide) (fun c_75b => ?_) (fun c_75b => ?_)
    · -- yes
      have c_75b := (lg_cmp_le _ _).mp c_75b
      refine lv_aload_n hx hb dX7_measures_82 rfl (lv_at hl 1 rfl) ?_
      refine va_get (D := gD Γ) (cl := vwCl) (tys := gTy Γ) (ci := 7) (v := .ref (a (b + 1))) (C := RX7) (T := TX7) (N := 18) hx hb hts iX7_measures_7 hown hK hP 0 rfl rfl 0 (Nat.le_of_ble_eq_true rfl) (hts (.fieldLink RX7 7 "DeadTimeLoopModel" "now" "[J") (List.mem_of_getElem? (i := 1) rfl)) (fun _ h9 => h9) rfl dX7_measures_83 ?_
      refine lv_sipush (v := 658) hx hb dX7_measures_86 (by decide) ?_
      refine ka_lald (D := gD Γ) (cl := vwCl) (tys := gTy Γ) hx hb hK hP 1 1 rfl rfl 658 (by decide) (by decide) (by decide) (v := ((mNow μ) 658)) rfl dX7_measures_89 ?_
      refine ka_last (D := gD Γ) (cl := vwCl) (tys := gTy Γ) hx hb hK hP hD hS 1 1 rfl rfl 658 (by decide) (by decide) (by decide) (wf := modW Γ a b ((vp_updL (mNow μ) 658 ((mNow μ) 658)), (mAside μ), (mKept μ), (mKm μ), (mPar μ), (mParA μ), (mBef μ), (mUm μ), (mLow μ), (mHigh μ), (mNames μ), (mLen μ), (mText μ), (mPath μ), (mIdeal μ), (mSpot μ), (mWhich μ), (mNum μ))) rfl dX7_measures_90 (fun H locs hP hD hS => ?_)
      refine lv_aload_n hx hb dX7_measures_91 rfl (lv_at hl 1 rfl) ?_
      refine va_get (D := gD Γ) (cl := vwCl) (tys := gTy Γ) (ci := 7) (v := .ref (a (b + 1))) (C := RX7) (T := TX7) (N := 18) hx hb hts iX7_measures_7 hown hK hP 0 rfl rfl 0 (Nat.le_of_ble_eq_true rfl) (hts (.fieldLink RX7 7 "DeadTimeLoopModel" "now" "[J") (List.mem_of_getElem? (i := 1) rfl)) (fun _ h9 => h9) rfl dX7_measures_92 ?_
      refine lv_sipush (v := 656) hx hb dX7_measures_95 (by decide) ?_
      refine lv_dup2_11 hx hb dX7_measures_98 rfl rfl ?_
      refine ka_lald (D := gD Γ) (cl := vwCl) (tys := gTy Γ) hx hb hK hP 1 1 rfl rfl 656 (by decide) (by decide) (by decide) (v := ((mNow μ) 656)) rfl dX7_measures_99 ?_
      refine lv_aload_n hx hb dX7_measures_100 rfl (lv_at hl 1 rfl) ?_
      refine va_get (D := gD Γ) (cl := vwCl) (tys := gTy Γ) (ci := 7) (v := .ref (a (b + 1))) (C := RX7) (T := TX7) (N := 18) hx hb hts iX7_measures_7 hown hK hP 0 rfl rfl 0 (Nat.le_of_ble_eq_true rfl) (hts (.fieldLink RX7 7 "DeadTimeLoopModel" "now" "[J") (List.mem_of_getElem? (i := 1) rfl)) (fun _ h9 => h9) rfl dX7_measures_101 ?_
      refine lv_sipush (v := 641) hx hb dX7_measures_104 (by decide) ?_
      refine ka_lald (D := gD Γ) (cl := vwCl) (tys := gTy Γ) hx hb hK hP 1 1 rfl rfl 641 (by decide) (by decide) (by decide) (v := ((mNow μ) 641)) rfl dX7_measures_107 ?_
      refine lv_aload_n hx hb dX7_measures_108 rfl (lv_at hl 1 rfl) ?_
      refine va_get (D := gD Γ) (cl := vwCl) (tys := gTy Γ) (ci := 7) (v := .ref (a (b + 1))) (C := RX7) (T := TX7) (N := 18) hx hb hts iX7_measures_7 hown hK hP 0 rfl rfl 0 (Nat.le_of_ble_eq_true rfl) (hts (.fieldLink RX7 7 "DeadTimeLoopModel" "now" "[J") (List.mem_of_getElem? (i := 1) rfl)) (fun _ h9 => h9) rfl dX7_measures_109 ?_
      refine lv_sipush (v := 652) hx hb dX7_measures_112 (by decide) ?_
      refine ka_lald (D := gD Γ) (cl := vwCl) (tys := gTy Γ) hx hb hK hP 1 1 rfl rfl 652 (by decide) (by decide) (by decide) (v := ((mNow μ) 652)) rfl dX7_measures_115 ?_
      refine lv_lsub hx hb dX7_measures_116 ?_
      refine ca_Sl hh hl.1 (c_X7_size Γ l (((mNow μ) 641) - ((mNow μ) 652))) (va_cwS 1 hts gX7_measures_X7_size rfl rfl rfl (by decide +kernel) ⟨(Nat.le_of_ble_eq_true rfl), (Nat.le_of_ble_eq_true rfl)⟩) (As := [.long (((mNow μ) 641) - ((mNow μ) 652))]) (rest := [.long ((mNow μ) 656), .int 656, .ref (a (b + 1))]) rfl dX7_measures_117 rfl (Nat.le_of_ble_eq_true rfl) hP hD hS ⟨Nat.zero_le _, Nat.zero_le _⟩ (fun H locs hP hS => ?_)
      refine lv_ladd hx hb dX7_measures_120 ?_
      refine ka_last (D := gD Γ) (cl := vwCl) (tys := gTy Γ) hx hb hK hP hD hS 1 1 rfl rfl 656 (by decide) (by decide) (by decide) (wf := modW Γ a b ((vp_updL (vp_updL (mNow μ) 658 ((mNow μ) 658)) 656 (((mNow μ) 656) + (mSize (((mNow μ) 641) - ((mNow μ) 652))))), (mAside μ), (mKept μ), (mKm μ), (mPar μ), (mParA μ), (mBef μ), (mUm μ), (mLow μ), (mHigh μ), (mNames μ), (mLen μ), (mText μ), (mPath μ), (mIdeal μ), (mSpot μ), (mWhich μ), (mNum μ))) rfl dX7_measures_121 (fun H locs hP hD hS => ?_)
      refine lv_aload_n hx hb dX7_measures_122 rfl (lv_at hl 1 rfl) ?_
      refine va_get (D := gD Γ) (cl := vwCl) (tys := gTy Γ) (ci := 7) (v := .ref (a (b + 1))) (C := RX7) (T := TX7) (N := 18) hx hb hts iX7_measures_7 hown hK hP 0 rfl rfl 0 (Nat.le_of_ble_eq_true rfl) (hts (.fieldLink RX7 7 "DeadTimeLoopModel" "now" "[J") (List.mem_of_getElem? (i := 1) rfl)) (fun _ h9 => h9) rfl dX7_measures_123 ?_
      refine lv_sipush (v := 659) hx hb dX7_measures_126 (by decide) ?_
      refine lv_dup2_11 hx hb dX7_measures_129 rfl rfl ?_
      refine ka_lald (D := gD Γ) (cl := vwCl) (tys := gTy Γ) hx hb hK hP 1 1 rfl rfl 659 (by decide) (by decide) (by decide) (v := ((mNow μ) 659)) rfl dX7_measures_130 ?_
      refine lv_lconst (v := 1) hx hb dX7_measures_131 (by decide) ?_
      refine lv_ladd hx hb dX7_measures_132 ?_
      refine ka_last (D := gD Γ) (cl := vwCl) (tys := gTy Γ) hx hb hK hP hD hS 1 1 rfl rfl 659 (by decide) (by decide) (by decide) (wf := modW Γ a b ((vp_updL (vp_updL (vp_updL (mNow μ) 658 ((mNow μ) 658)) 656 (((mNow μ) 656) + (mSize (((mNow μ) 641) - ((mNow μ) 652))))) 659 (((mNow μ) 659) + 1)), (mAside μ), (mKept μ), (mKm μ), (mPar μ), (mParA μ), (mBef μ), (mUm μ), (mLow μ), (mHigh μ), (mNames μ), (mLen μ), (mText μ), (mPath μ), (mIdeal μ), (mSpot μ), (mWhich μ), (mNum μ))) rfl dX7_measures_133 (fun H locs hP hD hS => ?_)
      exact re_v hQ ha hx hb hr hlk hAe hP hS dX7_measures_134 (by simp only [mMea, mMea1, mOv, mPut_now, c_17, c_75b, if_true, if_false, i32_10])
    · -- no
      have c_75b := mt (lg_cmp_le _ _).mpr c_75b
      refine lv_lload_n hx hb dX7_measures_78 rfl (lv_at hl 0 rfl) ?_
      refine lv_goto (tgt := 90) hx hb dX7_measures_79 (by decide) ?_
      refine ka_last (D := gD Γ) (cl := vwCl) (tys := gTy Γ) hx hb hK hP hD hS 1 1 rfl rfl 658 (by decide) (by decide) (by decide) (wf := modW Γ a b ((vp_updL (mNow μ) 658 (((mNow μ) 652) - ((mNow μ) 641))), (mAside μ), (mKept μ), (mKm μ), (mPar μ), (mParA μ), (mBef μ), (mUm μ), (mLow μ), (mHigh μ), (mNames μ), (mLen μ), (mText μ), (mPath μ), (mIdeal μ), (mSpot μ), (mWhich μ), (mNum μ))) rfl dX7_measures_90 (fun H locs hP hD hS => ?_)
      refine lv_aload_n hx hb dX7_measures_91 rfl (lv_at hl 1 rfl) ?_
      refine va_get (D := gD Γ) (cl := vwCl) (tys := gTy Γ) (ci := 7) (v := .ref (a (b + 1))) (C := RX7) (T := TX7) (N := 18) hx hb hts iX7_measures_7 hown hK hP 0 rfl rfl 0 (Nat.le_of_ble_eq_true rfl) (hts (.fieldLink RX7 7 "DeadTimeLoopModel" "now" "[J") (List.mem_of_getElem? (i := 1) rfl)) (fun _ h9 => h9) rfl dX7_measures_92 ?_
      refine lv_sipush (v := 656) hx hb dX7_measures_95 (by decide) ?_
      refine lv_dup2_11 hx hb dX7_measures_98 rfl rfl ?_
      refine ka_lald (D := gD Γ) (cl := vwCl) (tys := gTy Γ) hx hb hK hP 1 1 rfl rfl 656 (by decide) (by decide) (by decide) (v := ((mNow μ) 656)) rfl dX7_measures_99 ?_
      refine lv_aload_n hx hb dX7_measures_100 rfl (lv_at hl 1 rfl) ?_
      refine va_get (D := gD Γ) (cl := vwCl) (tys := gTy Γ) (ci := 7) (v := .ref (a (b + 1))) (C := RX7) (T := TX7) (N := 18) hx hb hts iX7_measures_7 hown hK hP 0 rfl rfl 0 (Nat.le_of_ble_eq_true rfl) (hts (.fieldLink RX7 7 "DeadTimeLoopModel" "now" "[J") (List.mem_of_getElem? (i := 1) rfl)) (fun _ h9 => h9) rfl dX7_measures_101 ?_
      refine lv_sipush (v := 641) hx hb dX7_measures_104 (by decide) ?_
      refine ka_lald (D := gD Γ) (cl := vwCl) (tys := gTy Γ) hx hb hK hP 1 1 rfl rfl 641 (by decide) (by decide) (by decide) (v := ((mNow μ) 641)) rfl dX7_measures_107 ?_
      refine lv_aload_n hx hb dX7_measures_108 rfl (lv_at hl 1 rfl) ?_
      refine va_get (D := gD Γ) (cl := vwCl) (tys := gTy Γ) (ci := 7) (v := .ref (a (b + 1))) (C := RX7) (T := TX7) (N := 18) hx hb hts iX7_measures_7 hown hK hP 0 rfl rfl 0 (Nat.le_of_ble_eq_true rfl) (hts (.fieldLink RX7 7 "DeadTimeLoopModel" "now" "[J") (List.mem_of_getElem? (i := 1) rfl)) (fun _ h9 => h9) rfl dX7_measures_109 ?_
      refine lv_sipush (v := 652) hx hb dX7_measures_112 (by decide) ?_
      refine ka_lald (D := gD Γ) (cl := vwCl) (tys := gTy Γ) hx hb hK hP 1 1 rfl rfl 652 (by decide) (by decide) (by decide) (v := ((mNow μ) 652)) rfl dX7_measures_115 ?_
      refine lv_lsub hx hb dX7_measures_116 ?_
      refine ca_Sl hh hl.1 (c_X7_size Γ l (((mNow μ) 641) - ((mNow μ) 652))) (va_cwS 1 hts gX7_measures_X7_size rfl rfl rfl (by decide +kernel) ⟨(Nat.le_of_ble_eq_true rfl), (Nat.le_of_ble_eq_true rfl)⟩) (As := [.long (((mNow μ) 641) - ((mNow μ) 652))]) (rest := [.long ((mNow μ) 656), .int 656, .ref (a (b + 1))]) rfl dX7_measures_117 rfl (Nat.le_of_ble_eq_true rfl) hP hD hS ⟨Nat.zero_le _, Nat.zero_le _⟩ (fun H locs hP hS => ?_)
      refine lv_ladd hx hb dX7_measures_120 ?_
      refine ka_last (D := gD Γ) (cl := vwCl) (tys := gTy Γ) hx hb hK hP hD hS 1 1 rfl rfl 656 (by decide) (by decide) (by decide) (wf := modW Γ a b ((vp_updL (vp_updL (mNow μ) 658 (((mNow μ) 652) - ((mNow μ) 641))) 656 (((mNow μ) 656) + (mSize (((mNow μ) 641) - ((mNow μ) 652))))), (mAside μ), (mKept μ), (mKm μ), (mPar μ), (mParA μ), (mBef μ), (mUm μ), (mLow μ), (mHigh μ), (mNames μ), (mLen μ), (mText μ), (mPath μ), (mIdeal μ), (mSpot μ), (mWhich μ), (mNum μ))) rfl dX7_measures_121 (fun H locs hP hD hS => ?_)
      refine lv_aload_n hx hb dX7_measures_122 rfl (lv_at hl 1 rfl) ?_
      refine va_get (D := gD Γ) (cl := vwCl) (tys := gTy Γ) (ci := 7) (v := .ref (a (b + 1))) (C := RX7) (T := TX7) (N := 18) hx hb hts iX7_measures_7 hown hK hP 0 rfl rfl 0 (Nat.le_of_ble_eq_true rfl) (hts (.fieldLink RX7 7 "DeadTimeLoopModel" "now" "[J") (List.mem_of_getElem? (i := 1) rfl)) (fun _ h9 => h9) rfl dX7_measures_123 ?_
      refine lv_sipush (v := 659) hx hb dX7_measures_126 (by decide) ?_
      refine lv_dup2_11 hx hb dX7_measures_129 rfl rfl ?_
      refine ka_lald (D := gD Γ) (cl := vwCl) (tys := gTy Γ) hx hb hK hP 1 1 rfl rfl 659 (by decide) (by decide) (by decide) (v := ((mNow μ) 659)) rfl dX7_measures_130 ?_
      refine lv_lconst (v := 1) hx hb dX7_measures_131 (by decide) ?_
      refine lv_ladd hx hb dX7_measures_132 ?_
      refine ka_last (D := gD Γ) (cl := vwCl) (tys := gTy Γ) hx hb hK hP hD hS 1 1 rfl rfl 659 (by decide) (by decide) (by decide) (wf := modW Γ a b ((vp_updL (vp_updL (vp_updL (mNow μ) 658 (((mNow μ) 652) - ((mNow μ) 641))) 656 (((mNow μ) 656) + (mSize (((mNow μ) 641) - ((mNow μ) 652))))) 659 (((mNow μ) 659) + 1)), (mAside μ), (mKept μ), (mKm μ), (mPar μ), (mParA μ), (mBef μ), (mUm μ), (mLow μ), (mHigh μ), (mNames μ), (mLen μ), (mText μ), (mPath μ), (mIdeal μ), (mSpot μ), (mWhich μ), (mNum μ))) rfl dX7_measures_133 (fun H locs hP hD hS => ?_)
      exact re_v hQ ha hx hb hr hlk hAe hP hS dX7_measures_134 (by simp only [mMea, mMea1, mOv, mPut_now, c_17, c_75b, if_true, if_false, i32_10])
def rm_X7_watches : Room := { frames := 1, cells := 0, slots := 0, locals := 23 }
theorem iX7_watches_7 : ∀ w ∈ u_ws RX7 TX7 18, w ∈ wsX7_watches := fun w h => (List.mem_cons_of_mem _ (List.mem_append_right _ h))
set_option maxHeartbeats 1000000 in
set_option maxRecDepth 100000 in
theorem c_X7_watches (Γ : gT) (l : Launch) (a : Nat → Nat) (b : Nat) (μ : Mst) (hok : mOk (mNow μ)) : Cv Γ l yX7_watches wsX7_watches rm_X7_watches [.ref (a b)] (modW Γ a b μ) (modW Γ a b (mPut_now μ (mWat (mNow μ)))) := by
  refine Cv.of (cc := cX7_watches) (own := RX7) (nL := 6) (ret := none) (by decide +kernel) rfl rfl (Nat.le_of_ble_eq_true rfl) ?_
  intro p e s m args below meth c A Q H locs ls ha hAe hQ hx hb hml hr hts hown hlk hP hK hD hS hA hG hl
  have hh : Hd Γ p s m args c cX7_watches RX7 6 wsX7_watches A := ⟨⟨hx, hb, hml, hown, hts⟩, hK, hA, hG⟩
  have hl : lv_has ls 6 [(0, .ref (a b))] := hl
  refine lv_iconst (v := 0) hx hb dX7_watches_0 (by decide) ?_
  refine lv_istore_n (lv' := [(1, .int 0), (0, .ref (a b))]) hx hb dX7_watches_1 rfl hl (by decide) rfl (fun ls hl => ?_)
  have hJ_2 : ∀ n : Nat, ∀ (j : Nat) (y : Int32) (n1 : Nat → Int64), (y = nI j) → (j ≤ 4) → (5 ≤ j + n) → (mOk n1) → (mWatN n j n1 = mWat (mNow μ)) → ∀ (H : Heap) (locs : List Loc) (ls : Array Slot), va_P (gD Γ) vwCl (modW Γ a b (n1, (mAside μ), (mKept μ), (mKm μ), (mPar μ), (mParA μ), (mBef μ), (mUm μ), (mLow μ), (mHigh μ), (mNames μ), (mLen μ), (mText μ), (mPath μ), (mIdeal μ), (mSpot μ), (mWhich μ), (mNum μ))) H → va_D A (modW Γ a b (n1, (mAside μ), (mKept μ), (mKm μ), (mPar μ), (mParA μ), (mBef μ), (mUm μ), (mLow μ), (mHigh μ), (mNames μ), (mLen μ), (mText μ), (mPath μ), (mIdeal μ), (mSpot μ), (mWhich μ), (mNum μ))) → va_S A s.heap H locs → lv_has ls 6 [(0, .ref (a b)), (1, .int y)] → W p l e rm_X7_watches s m args below meth c H locs 0 0 Q (F0 m 2 ls []) := by
    intro n
    induction n with
    | zero =>
      intro j y n1 ey hj hn hok1 hg
      omega
    | succ n ih =>
      intro j y n1 ey hj hn hok1 hg H locs ls hP hD hS hl
      obtain ⟨hT, wn, hW4, hW, hs⟩ := hok1
      refine lv_iload_n hx hb dX7_watches_2 rfl (lv_at hl 1 rfl) ?_
      refine lv_i2l (v := y.toInt64) hx hb dX7_watches_3 rfl ?_
      refine lv_aload_n hx hb dX7_watches_4 rfl (lv_at hl 0 rfl) ?_
      refine va_get (D := gD Γ) (cl := vwCl) (tys := gTy Γ) (ci := 7) (v := .ref (a (b + 1))) (C := RX7) (T := TX7) (N := 18) hx hb hts iX7_watches_7 hown hK hP 0 rfl rfl 0 (Nat.le_of_ble_eq_true rfl) (hts (.fieldLink RX7 7 "DeadTimeLoopModel" "now" "[J") (List.mem_of_getElem? (i := 1) rfl)) (fun _ h9 => h9) rfl dX7_watches_5 ?_
      refine lv_sipush (v := 660) hx hb dX7_watches_8 (by decide) ?_
      refine ka_lald (D := gD Γ) (cl := vwCl) (tys := gTy Γ) hx hb hK hP 1 1 rfl rfl 660 (by decide) (by decide) (by decide) (v := (n1 660)) rfl dX7_watches_11 ?_
      refine W.lcmp hx hb dX7_watches_12 ?_
      refine lv_if_ge (tgt := 160) hx hb dX7_watches_13 (by decide) (fun c_13 => ?_) (fun c_13 => ?_)
      · -- yes
        have c_13 := (lg_cmp_ge _ _).mp c_13
        exact re_v hQ ha hx hb hr hlk hAe hP hS dX7_watches_160 (by rw [← hg, mWatN_s]; subst ey; rw [if_pos c_13]; rfl)
      · -- no
        have c_13 := mt (lg_cmp_ge _ _).mpr c_13
        have hjW : j < wn := ltW (by rw [← hW, ← ey]; exact c_13) (by omega) (by omega)
        refine lv_sipush (v := 661) hx hb dX7_watches_16 (by decide) ?_
        refine lv_iconst (v := 5) hx hb dX7_watches_19 (by decide) ?_
        refine lv_iload_n hx hb dX7_watches_20 rfl (lv_at hl 1 rfl) ?_
        refine lv_imul hx hb dX7_watches_21 ?_
        refine lv_iadd hx hb dX7_watches_22 ?_
        refine lv_istore_n (lv' := [(2, .int (661 + (5 * y))), (0, .ref (a b)), (1, .int y)]) hx hb dX7_watches_23 rfl hl (by decide) rfl (fun ls hl => ?_)
        refine lv_aload_n hx hb dX7_watches_24 rfl (lv_at hl 1 rfl) ?_
        refine lv_aload_n hx hb dX7_watches_25 rfl (lv_at hl 1 rfl) ?_
        refine va_get (D := gD Γ) (cl := vwCl) (tys := gTy Γ) (ci := 7) (v := .ref (a (b + 1))) (C := RX7) (T := TX7) (N := 18) hx hb hts iX7_watches_7 hown hK hP 0 rfl rfl 0 (Nat.le_of_ble_eq_true rfl) (hts (.fieldLink RX7 7 "DeadTimeLoopModel" "now" "[J") (List.mem_of_getElem? (i := 1) rfl)) (fun _ h9 => h9) rfl dX7_watches_26 ?_
        refine lv_iload_n hx hb dX7_watches_29 rfl (lv_at hl 0 rfl) ?_
        refine ka_lald (D := gD Γ) (cl := vwCl) (tys := gTy Γ) hx hb hK hP 1 1 rfl rfl (661 + 5 * j) (by rw [ey]; exact wat_ix j) (by omega) (by decide) (v := (n1 (661 + 5 * j))) rfl dX7_watches_30 ?_
        refine lv_l2i (v := (n1 (661 + 5 * j)).toInt32) hx hb dX7_watches_31 rfl ?_
        refine lv_aload_n hx hb dX7_watches_32 rfl (lv_at hl 1 rfl) ?_
        refine va_get (D := gD Γ) (cl := vwCl) (tys := gTy Γ) (ci := 7) (v := .ref (a (b + 1))) (C := RX7) (T := TX7) (N := 18) hx hb hts iX7_watches_7 hown hK hP 0 rfl rfl 0 (Nat.le_of_ble_eq_true rfl) (hts (.fieldLink RX7 7 "DeadTimeLoopModel" "now" "[J") (List.mem_of_getElem? (i := 1) rfl)) (fun _ h9 => h9) rfl dX7_watches_33 ?_
        refine lv_sipush (v := 640) hx hb dX7_watches_36 (by decide) ?_
        refine ka_lald (D := gD Γ) (cl := vwCl) (tys := gTy Γ) hx hb hK hP 1 1 rfl rfl 640 (by decide) (by decide) (by decide) (v := (n1 640)) rfl dX7_watches_39 ?_
        refine ca_Vla hh hl.1 (c_X7_at Γ l a b (n1, (mAside μ), (mKept μ), (mKm μ), (mPar μ), (mParA μ), (mBef μ), (mUm μ), (mLow μ), (mHigh μ), (mNames μ), (mLen μ), (mText μ), (mPath μ), (mIdeal μ), (mSpot μ), (mWhich μ), (mNum μ)) ((n1 (661 + 5 * j)).toInt32) (n1 640) (hs j (by omega))) (cwV 2 hts gX7_watches_X7_at rfl rfl rfl (by decide +kernel) ⟨(Nat.le_of_ble_eq_true rfl), (Nat.le_of_ble_eq_true rfl)⟩) (As := [.int ((n1 (661 + 5 * j)).toInt32), .long (n1 640)]) (rest := []) rfl dX7_watches_40 rfl (Nat.le_of_ble_eq_true rfl) hP hD hS (q0 := 0) (ci := 7) rfl rfl rfl (wf := modW Γ a b (n1, (mAside μ), (mKept μ), (mKm μ), (mPar μ), (mParA μ), (mBef μ), (mUm μ), (mLow μ), (mHigh μ), (mNames μ), (mLen μ), (mText μ), (mPath μ), (mIdeal μ), (mSpot μ), (mWhich μ), (mNum μ))) rfl ⟨Nat.zero_le _, Nat.zero_le _⟩ (fun H locs hP hD hS => ?_)
        refine lv_topl (fun r_40 er_40 => ?_)
        have er_40 : r_40 = (mAt n1 ((n1 (661 + 5 * j)).toInt32) (n1 640)) := er_40
        refine lv_lstore_n (lv' := [(3, .long r_40), (2, .int (661 + (5 * y))), (0, .ref (a b)), (1, .int y)]) hx hb dX7_watches_43 rfl hl (by decide) rfl (fun ls hl => ?_)
        refine lv_aload_n hx hb dX7_watches_44 rfl (lv_at hl 2 rfl) ?_
        refine va_get (D := gD Γ) (cl := vwCl) (tys := gTy Γ) (ci := 7) (v := .ref (a (b + 1))) (C := RX7) (T := TX7) (N := 18) hx hb hts iX7_watches_7 hown hK hP 0 rfl rfl 0 (Nat.le_of_ble_eq_true rfl) (hts (.fieldLink RX7 7 "DeadTimeLoopModel" "now" "[J") (List.mem_of_getElem? (i := 1) rfl)) (fun _ h9 => h9) rfl dX7_watches_45 ?_
        refine lv_iload_n hx hb dX7_watches_48 rfl (lv_at hl 1 rfl) ?_
        refine lv_iconst (v := 1) hx hb dX7_watches_49 (by decide) ?_
        refine lv_iadd hx hb dX7_watches_50 ?_
        refine ka_lald (D := gD Γ) (cl := vwCl) (tys := gTy Γ) hx hb hK hP 1 1 rfl rfl (661 + 5 * j + 1) (by rw [ey]; exact wat_ix' j 1) (by omega) (by decide) (v := (n1 (661 + 5 * j + 1))) rfl dX7_watches_51 ?_
        refine lv_lconst (v := 0) hx hb dX7_watches_52 (by decide) ?_
        refine W.lcmp hx hb dX7_watches_53 ?_
        refine lv_if_ne (tgt := 61) hx hb dX7_watches_54 (by decide) (fun c_54 => ?_) (fun c_54 => ?_)
        · -- yes
          have c_54 := mt (lg_cmp_eq _ _).mpr c_54
          refine lv_iconst (v := 0) hx hb dX7_watches_61 (by decide) ?_
          refine lv_istore (lv' := [(5, .int 0), (3, .long r_40), (2, .int (661 + (5 * y))), (0, .ref (a b)), (1, .int y)]) hx hb dX7_watches_62 hl (by decide) rfl (fun ls hl => ?_)
          refine lv_aload_n hx hb dX7_watches_64 rfl (lv_at hl 3 rfl) ?_
          refine va_get (D := gD Γ) (cl := vwCl) (tys := gTy Γ) (ci := 7) (v := .ref (a (b + 1))) (C := RX7) (T := TX7) (N := 18) hx hb hts iX7_watches_7 hown hK hP 0 rfl rfl 0 (Nat.le_of_ble_eq_true rfl) (hts (.fieldLink RX7 7 "DeadTimeLoopModel" "now" "[J") (List.mem_of_getElem? (i := 1) rfl)) (fun _ h9 => h9) rfl dX7_watches_65 ?_
          refine lv_iload_n hx hb dX7_watches_68 rfl (lv_at hl 2 rfl) ?_
          refine lv_iconst (v := 2) hx hb dX7_watches_69 (by decide) ?_
          refine lv_iadd hx hb dX7_watches_70 ?_
          refine lv_iload hx hb dX7_watches_71 (lv_at hl 0 rfl) ?_
          refine lv_if_ne (tgt := 89) hx hb dX7_watches_73 (by decide) (fun c => (c (by decide)).elim) (fun _ => ?_)
          refine lv_lload_n hx hb dX7_watches_76 rfl (lv_at hl 1 rfl) ?_
          refine lv_aload_n hx hb dX7_watches_77 rfl (lv_at hl 3 rfl) ?_
          refine va_get (D := gD Γ) (cl := vwCl) (tys := gTy Γ) (ci := 7) (v := .ref (a (b + 1))) (C := RX7) (T := TX7) (N := 18) hx hb hts iX7_watches_7 hown hK hP 0 rfl rfl 0 (Nat.le_of_ble_eq_true rfl) (hts (.fieldLink RX7 7 "DeadTimeLoopModel" "now" "[J") (List.mem_of_getElem? (i := 1) rfl)) (fun _ h9 => h9) rfl dX7_watches_78 ?_
          refine lv_iload_n hx hb dX7_watches_81 rfl (lv_at hl 2 rfl) ?_
          refine lv_iconst (v := 2) hx hb dX7_watches_82 (by decide) ?_
          refine lv_iadd hx hb dX7_watches_83 ?_
          refine ka_lald (D := gD Γ) (cl := vwCl) (tys := gTy Γ) hx hb hK hP 1 1 rfl rfl (661 + 5 * j + 2) (by rw [ey]; exact wat_ix' j 2) (by omega) (by decide) (v := (n1 (661 + 5 * j + 2))) rfl dX7_watches_84 ?_
          refine W.lcmp hx hb dX7_watches_85 ?_
          refine lv_if_ge (tgt := 93) hx hb dX7_watches_86 (by decide) (fun c_86 => ?_) (fun c_86 => ?_)
          · -- yes
            have c_86 := (lg_cmp_ge _ _).mp c_86
            refine lv_aload_n hx hb dX7_watches_93 rfl (lv_at hl 3 rfl) ?_
            refine va_get (D := gD Γ) (cl := vwCl) (tys := gTy Γ) (ci := 7) (v := .ref (a (b + 1))) (C := RX7) (T := TX7) (N := 18) hx hb hts iX7_watches_7 hown hK hP 0 rfl rfl 0 (Nat.le_of_ble_eq_true rfl) (hts (.fieldLink RX7 7 "DeadTimeLoopModel" "now" "[J") (List.mem_of_getElem? (i := 1) rfl)) (fun _ h9 => h9) rfl dX7_watches_94 ?_
            refine lv_iload_n hx hb dX7_watches_97 rfl (lv_at hl 2 rfl) ?_
            refine lv_iconst (v := 2) hx hb dX7_watches_98 (by decide) ?_
            refine lv_iadd hx hb dX7_watches_99 ?_
            refine ka_lald (D := gD Γ) (cl := vwCl) (tys := gTy Γ) hx hb hK hP 1 1 rfl rfl (661 + 5 * j + 2) (by rw [ey]; exact wat_ix' j 2) (by omega) (by decide) (v := (n1 (661 + 5 * j + 2))) rfl dX7_watches_100 ?_
            refine ka_last (D := gD Γ) (cl := vwCl) (tys := gTy Γ) hx hb hK hP hD hS 1 1 rfl rfl (661 + 5 * j + 2) (by rw [ey]; exact wat_ix' j 2) (by omega) (by decide) (wf := modW Γ a b ((vp_updL n1 (661 + 5 * j + 2) (n1 (661 + 5 * j + 2))), (mAside μ), (mKept μ), (mKm μ), (mPar μ), (mParA μ), (mBef μ), (mUm μ), (mLow μ), (mHigh μ), (mNames μ), (mLen μ), (mText μ), (mPath μ), (mIdeal μ), (mSpot μ), (mWhich μ), (mNum μ))) rfl dX7_watches_101 (fun H locs hP hD hS => ?_)
            refine lv_iload hx hb dX7_watches_102 (lv_at hl 0 rfl) ?_
            refine lv_if_ne (tgt := 120) hx hb dX7_watches_104 (by decide) (fun c => (c (by decide)).elim) (fun _ => ?_)
            refine lv_lload_n hx hb dX7_watches_107 rfl (lv_at hl 1 rfl) ?_
            refine lv_aload_n hx hb dX7_watches_108 rfl (lv_at hl 3 rfl) ?_
            refine va_get (D := gD Γ) (cl := vwCl) (tys := gTy Γ) (ci := 7) (v := .ref (a (b + 1))) (C := RX7) (T := TX7) (N := 18) hx hb hts iX7_watches_7 hown hK hP 0 rfl rfl 0 (Nat.le_of_ble_eq_true rfl) (hts (.fieldLink RX7 7 "DeadTimeLoopModel" "now" "[J") (List.mem_of_getElem? (i := 1) rfl)) (fun _ h9 => h9) rfl dX7_watches_109 ?_
            refine lv_iload_n hx hb dX7_watches_112 rfl (lv_at hl 2 rfl) ?_
            refine lv_iconst (v := 3) hx hb dX7_watches_113 (by decide) ?_
            refine lv_iadd hx hb dX7_watches_114 ?_
            refine ka_lald (D := gD Γ) (cl := vwCl) (tys := gTy Γ) hx hb hK hP 1 1 rfl rfl (661 + 5 * j + 3) (by rw [ey]; exact wat_ix' j 3) (by omega) (by decide) (v := ((vp_updL n1 (661 + 5 * j + 2) (n1 (661 + 5 * j + 2))) (661 + 5 * j + 3))) rfl dX7_watches_115 ?_
            refine W.lcmp hx hb dX7_watches_116 ?_
            refine lv_if_le (tgt := 145) hx hb dX7_watches_117 (by decide) (fun c_117 => ?_) (fun c_117 => ?_)
            · -- yes
              have c_117 := (lg_cmp_le _ _).mp c_117
              refine lv_aload_n hx hb dX7_watches_145 rfl (lv_at hl 3 rfl) ?_
              refine va_get (D := gD Γ) (cl := vwCl) (tys := gTy Γ) (ci := 7) (v := .ref (a (b + 1))) (C := RX7) (T := TX7) (N := 18) hx hb hts iX7_watches_7 hown hK hP 0 rfl rfl 0 (Nat.le_of_ble_eq_true rfl) (hts (.fieldLink RX7 7 "DeadTimeLoopModel" "now" "[J") (List.mem_of_getElem? (i := 1) rfl)) (fun _ h9 => h9) rfl dX7_watches_146 ?_
              refine lv_iload_n hx hb dX7_watches_149 rfl (lv_at hl 2 rfl) ?_
              refine lv_iconst (v := 1) hx hb dX7_watches_150 (by decide) ?_
              refine lv_iadd hx hb dX7_watches_151 ?_
              refine lv_lconst (v := 1) hx hb dX7_watches_152 (by decide) ?_
              refine ka_last (D := gD Γ) (cl := vwCl) (tys := gTy Γ) hx hb hK hP hD hS 1 1 rfl rfl (661 + 5 * j + 1) (by rw [ey]; exact wat_ix' j 1) (by omega) (by decide) (wf := modW Γ a b ((vp_updL (vp_updL n1 (661 + 5 * j + 2) (n1 (661 + 5 * j + 2))) (661 + 5 * j + 1) 1), (mAside μ), (mKept μ), (mKm μ), (mPar μ), (mParA μ), (mBef μ), (mUm μ), (mLow μ), (mHigh μ), (mNames μ), (mLen μ), (mText μ), (mPath μ), (mIdeal μ), (mSpot μ), (mWhich μ), (mNum μ))) rfl dX7_watches_153 (fun H locs hP hD hS => ?_)
              refine lv_iinc (v := (y + 1)) (lv' := [(1, .int (y + 1)), (5, .int 0), (3, .long r_40), (2, .int (661 + (5 * y))), (0, .ref (a b))]) hx hb dX7_watches_154 hl (k := 4) rfl rfl (by decide) rfl (fun ls hl => ?_)
              refine lv_goto (tgt := 2) hx hb dX7_watches_157 (by decide) ?_
              exact ih (j + 1) _ _ (by rw [ey]; exact nI_1 j) (by omega) (by omega) (by have q := mOk_wat1 (j := j) (n := n1) ⟨hT, wn, hW4, hW, hs⟩; simp only [mWat1, mWat2, mWat4, mWat3, mWat5, ← er_40, c_13, c_54, c_86, c_117, if_true, if_false, i32_10] at q; exact q) (by rw [← hg, mWatN_s, if_neg (by rw [← ey]; exact c_13)]; simp only [mWat1, mWat2, mWat4, mWat3, mWat5, ← er_40, c_13, c_54, c_86, c_117, if_true, if_false, i32_10]) _ _ _ hP hD hS (lv_sub hl [4, 0] rfl)
            · -- no
              have c_117 := mt (lg_cmp_le _ _).mpr c_117
              refine lv_aload_n hx hb dX7_watches_120 rfl (lv_at hl 3 rfl) ?_
              refine va_get (D := gD Γ) (cl := vwCl) (tys := gTy Γ) (ci := 7) (v := .ref (a (b + 1))) (C := RX7) (T := TX7) (N := 18) hx hb hts iX7_watches_7 hown hK hP 0 rfl rfl 0 (Nat.le_of_ble_eq_true rfl) (hts (.fieldLink RX7 7 "DeadTimeLoopModel" "now" "[J") (List.mem_of_getElem? (i := 1) rfl)) (fun _ h9 => h9) rfl dX7_watches_121 ?_
              refine lv_iload_n hx hb dX7_watches_124 rfl (lv_at hl 2 rfl) ?_
              refine lv_iconst (v := 3) hx hb dX7_watches_125 (by decide) ?_
              refine lv_iadd hx hb dX7_watches_126 ?_
              refine lv_lload_n hx hb dX7_watches_127 rfl (lv_at hl 1 rfl) ?_
              refine ka_last (D := gD Γ) (cl := vwCl) (tys := gTy Γ) hx hb hK hP hD hS 1 1 rfl rfl (661 + 5 * j + 3) (by rw [ey]; exact wat_ix' j 3) (by omega) (by decide) (wf := modW Γ a b ((vp_updL (vp_updL n1 (661 + 5 * j + 2) (n1 (661 + 5 * j + 2))) (661 + 5 * j + 3) r_40), (mAside μ), (mKept μ), (mKm μ), (mPar μ), (mParA μ), (mBef μ), (mUm μ), (mLow μ), (mHigh μ), (mNames μ), (mLen μ), (mText μ), (mPath μ), (mIdeal μ), (mSpot μ), (mWhich μ), (mNum μ))) rfl dX7_watches_128 (fun H locs hP hD hS => ?_)
              refine lv_aload_n hx hb dX7_watches_129 rfl (lv_at hl 3 rfl) ?_
              refine va_get (D := gD Γ) (cl := vwCl) (tys := gTy Γ) (ci := 7) (v := .ref (a (b + 1))) (C := RX7) (T := TX7) (N := 18) hx hb hts iX7_watches_7 hown hK hP 0 rfl rfl 0 (Nat.le_of_ble_eq_true rfl) (hts (.fieldLink RX7 7 "DeadTimeLoopModel" "now" "[J") (List.mem_of_getElem? (i := 1) rfl)) (fun _ h9 => h9) rfl dX7_watches_130 ?_
              refine lv_iload_n hx hb dX7_watches_133 rfl (lv_at hl 2 rfl) ?_
              refine lv_iconst (v := 4) hx hb dX7_watches_134 (by decide) ?_
              refine lv_iadd hx hb dX7_watches_135 ?_
              refine lv_aload_n hx hb dX7_watches_136 rfl (lv_at hl 3 rfl) ?_
              refine va_get (D := gD Γ) (cl := vwCl) (tys := gTy Γ) (ci := 7) (v := .ref (a (b + 1))) (C := RX7) (T := TX7) (N := 18) hx hb hts iX7_watches_7 hown hK hP 0 rfl rfl 0 (Nat.le_of_ble_eq_true rfl) (hts (.fieldLink RX7 7 "DeadTimeLoopModel" "now" "[J") (List.mem_of_getElem? (i := 1) rfl)) (fun _ h9 => h9) rfl dX7_watches_137 ?_
              refine lv_sipush (v := 640) hx hb dX7_watches_140 (by decide) ?_
              refine ka_lald (D := gD Γ) (cl := vwCl) (tys := gTy Γ) hx hb hK hP 1 1 rfl rfl 640 (by decide) (by decide) (by decide) (v := ((vp_updL (vp_updL n1 (661 + 5 * j + 2) (n1 (661 + 5 * j + 2))) (661 + 5 * j + 3) r_40) 640)) rfl dX7_watches_143 ?_
              refine lv_topl (fun r_144 er_144 => ?_)
              have er_144 : r_144 = ((vp_updL (vp_updL n1 (661 + 5 * j + 2) (n1 (661 + 5 * j + 2))) (661 + 5 * j + 3) r_40) 640) := er_144
              refine ka_last (D := gD Γ) (cl := vwCl) (tys := gTy Γ) hx hb hK hP hD hS 1 1 rfl rfl (661 + 5 * j + 4) (by rw [ey]; exact wat_ix' j 4) (by omega) (by decide) (wf := modW Γ a b ((vp_updL (vp_updL (vp_updL n1 (661 + 5 * j + 2) (n1 (661 + 5 * j + 2))) (661 + 5 * j + 3) r_40) (661 + 5 * j + 4) r_144), (mAside μ), (mKept μ), (mKm μ), (mPar μ), (mParA μ), (mBef μ), (mUm μ), (mLow μ), (mHigh μ), (mNames μ), (mLen μ), (mText μ), (mPath μ), (mIdeal μ), (mSpot μ), (mWhich μ), (mNum μ))) rfl dX7_watches_144 (fun H locs hP hD hS => ?_)
              refine lv_aload_n hx hb dX7_watches_145 rfl (lv_at hl 3 rfl) ?_
              refine va_get (D := gD Γ) (cl := vwCl) (tys := gTy Γ) (ci := 7) (v := .ref (a (b + 1))) (C := RX7) (T := TX7) (N := 18) hx hb hts iX7_watches_7 hown hK hP 0 rfl rfl 0 (Nat.le_of_ble_eq_true rfl) (hts (.fieldLink RX7 7 "DeadTimeLoopModel" "now" "[J") (List.mem_of_getElem? (i := 1) rfl)) (fun _ h9 => h9) rfl dX7_watches_146 ?_
              refine lv_iload_n hx hb dX7_watches_149 rfl (lv_at hl 2 rfl) ?_
              refine lv_iconst (v := 1) hx hb dX7_watches_150 (by decide) ?_
              refine lv_iadd hx hb dX7_watches_151 ?_
              refine lv_lconst (v := 1) hx hb dX7_watches_152 (by decide) ?_
              refine ka_last (D := gD Γ) (cl := vwCl) (tys := gTy Γ) hx hb hK hP hD hS 1 1 rfl rfl (661 + 5 * j + 1) (by rw [ey]; exact wat_ix' j 1) (by omega) (by decide) (wf := modW Γ a b ((vp_updL (vp_updL (vp_updL (vp_updL n1 (661 + 5 * j + 2) (n1 (661 + 5 * j + 2))) (661 + 5 * j + 3) r_40) (661 + 5 * j + 4) r_144) (661 + 5 * j + 1) 1), (mAside μ), (mKept μ), (mKm μ), (mPar μ), (mParA μ), (mBef μ), (mUm μ), (mLow μ), (mHigh μ), (mNames μ), (mLen μ), (mText μ), (mPath μ), (mIdeal μ), (mSpot μ), (mWhich μ), (mNum μ))) rfl dX7_watches_153 (fun H locs hP hD hS => ?_)
              refine lv_iinc (v := (y + 1)) (lv' := [(1, .int (y + 1)), (5, .int 0), (3, .long r_40), (2, .int (661 + (5 * y))), (0, .ref (a b))]) hx hb dX7_watches_154 hl (k := 4) rfl rfl (by decide) rfl (fun ls hl => ?_)
              refine lv_goto (tgt := 2) hx hb dX7_watches_157 (by decide) ?_
              exact ih (j + 1) _ _ (by rw [ey]; exact nI_1 j) (by omega) (by omega) (by have q := mOk_wat1 (j := j) (n := n1) ⟨hT, wn, hW4, hW, hs⟩; simp only [mWat1, mWat2, mWat4, mWat3, mWat5, ← er_40, ← er_144, c_13, c_54, c_86, c_117, if_true, if_false, i32_10] at q; exact q) (by rw [← hg, mWatN_s, if_neg (by rw [← ey]; exact c_13)]; simp only [mWat1, mWat2, mWat4, mWat3, mWat5, ← er_40, ← er_144, c_13, c_54, c_86, c_117, if_true, if_false, i32_10]) _ _ _ hP hD hS (lv_sub hl [4, 0] rfl)
          · -- no
            have c_86 := mt (lg_cmp_ge _ _).mpr c_86
            refine lv_lload_n hx hb dX7_watches_89 rfl (lv_at hl 1 rfl) ?_
            refine lv_goto (tgt := 101) hx hb dX7_watches_90 (by decide) ?_
            refine ka_last (D := gD Γ) (cl := vwCl) (tys := gTy Γ) hx hb hK hP hD hS 1 1 rfl rfl (661 + 5 * j + 2) (by rw [ey]; exact wat_ix' j 2) (by omega) (by decide) (wf := modW Γ a b ((vp_updL n1 (661 + 5 * j + 2) r_40), (mAside μ), (mKept μ), (mKm μ), (mPar μ), (mParA μ), (mBef μ), (mUm μ), (mLow μ), (mHigh μ), (mNames μ), (mLen μ), (mText μ), (mPath μ), (mIdeal μ), (mSpot μ), (mWhich μ), (mNum μ))) rfl dX7_watches_101 (fun H locs hP hD hS => ?_)
            refine lv_iload hx hb dX7_watches_102 (lv_at hl 0 rfl) ?_
            refine lv_if_ne (tgt := 120) hx hb dX7_watches_104 (by decide) (fun c => (c (by decide)).elim) (fun _ => ?_)
            refine lv_lload_n hx hb dX7_watches_107 rfl (lv_at hl 1 rfl) ?_
            refine lv_aload_n hx hb dX7_watches_108 rfl (lv_at hl 3 rfl) ?_
            refine va_get (D := gD Γ) (cl := vwCl) (tys := gTy Γ) (ci := 7) (v := .ref (a (b + 1))) (C := RX7) (T := TX7) (N := 18) hx hb hts iX7_watches_7 hown hK hP 0 rfl rfl 0 (Nat.le_of_ble_eq_true rfl) (hts (.fieldLink RX7 7 "DeadTimeLoopModel" "now" "[J") (List.mem_of_getElem? (i := 1) rfl)) (fun _ h9 => h9) rfl dX7_watches_109 ?_
            refine lv_iload_n hx hb dX7_watches_112 rfl (lv_at hl 2 rfl) ?_
            refine lv_iconst (v := 3) hx hb dX7_watches_113 (by decide) ?_
            refine lv_iadd hx hb dX7_watches_114 ?_
            refine ka_lald (D := gD Γ) (cl := vwCl) (tys := gTy Γ) hx hb hK hP 1 1 rfl rfl (661 + 5 * j + 3) (by rw [ey]; exact wat_ix' j 3) (by omega) (by decide) (v := ((vp_updL n1 (661 + 5 * j + 2) r_40) (661 + 5 * j + 3))) rfl dX7_watches_115 ?_
            refine W.lcmp hx hb dX7_watches_116 ?_
            refine lv_if_le (tgt := 145) hx hb dX7_watches_117 (by decide) (fun c_117b => ?_) (fun c_117b => ?_)
            · -- yes
              have c_117b := (lg_cmp_le _ _).mp c_117b
              refine lv_aload_n hx hb dX7_watches_145 rfl (lv_at hl 3 rfl) ?_
              refine va_get (D := gD Γ) (cl := vwCl) (tys := gTy Γ) (ci := 7) (v := .ref (a (b + 1))) (C := RX7) (T := TX7) (N := 18) hx hb hts iX7_watches_7 hown hK hP 0 rfl rfl 0 (Nat.le_of_ble_eq_true rfl) (hts (.fieldLink RX7 7 "DeadTimeLoopModel" "now" "[J") (List.mem_of_getElem? (i := 1) rfl)) (fun _ h9 => h9) rfl dX7_watches_146 ?_
              refine lv_iload_n hx hb dX7_watches_149 rfl (lv_at hl 2 rfl) ?_
              refine lv_iconst (v := 1) hx hb dX7_watches_150 (by decide) ?_
              refine lv_iadd hx hb dX7_watches_151 ?_
              refine lv_lconst (v := 1) hx hb dX7_watches_152 (by decide) ?_
              refine ka_last (D := gD Γ) (cl := vwCl) (tys := gTy Γ) hx hb hK hP hD hS 1 1 rfl rfl (661 + 5 * j + 1) (by rw [ey]; exact wat_ix' j 1) (by omega) (by decide) (wf := modW Γ a b ((vp_updL (vp_updL n1 (661 + 5 * j + 2) r_40) (661 + 5 * j + 1) 1), (mAside μ), (mKept μ), (mKm μ), (mPar μ), (mParA μ), (mBef μ), (mUm μ), (mLow μ), (mHigh μ), (mNames μ), (mLen μ), (mText μ), (mPath μ), (mIdeal μ), (mSpot μ), (mWhich μ), (mNum μ))) rfl dX7_watches_153 (fun H locs hP hD hS => ?_)
              refine lv_iinc (v := (y + 1)) (lv' := [(1, .int (y + 1)), (5, .int 0), (3, .long r_40), (2, .int (661 + (5 * y))), (0, .ref (a b))]) hx hb dX7_watches_154 hl (k := 4) rfl rfl (by decide) rfl (fun ls hl => ?_)
              refine lv_goto (tgt := 2) hx hb dX7_watches_157 (by decide) ?_
              exact ih (j + 1) _ _ (by rw [ey]; exact nI_1 j) (by omega) (by omega) (by have q := mOk_wat1 (j := j) (n := n1) ⟨hT, wn, hW4, hW, hs⟩; simp only [mWat1, mWat2, mWat4, mWat3, mWat5, ← er_40, c_13, c_54, c_86, c_117b, if_true, if_false, i32_10] at q; exact q) (by rw [← hg, mWatN_s, if_neg (by rw [← ey]; exact c_13)]; simp only [mWat1, mWat2, mWat4, mWat3, mWat5, ← er_40, c_13, c_54, c_86, c_117b, if_true, if_false, i32_10]) _ _ _ hP hD hS (lv_sub hl [4, 0] rfl)
            · -- no
              have c_117b := mt (lg_cmp_le _ _).mpr c_117b
              refine lv_aload_n hx hb dX7_watches_120 rfl (lv_at hl 3 rfl) ?_
              refine va_get (D := gD Γ) (cl := vwCl) (tys := gTy Γ) (ci := 7) (v := .ref (a (b + 1))) (C := RX7) (T := TX7) (N := 18) hx hb hts iX7_watches_7 hown hK hP 0 rfl rfl 0 (Nat.le_of_ble_eq_true rfl) (hts (.fieldLink RX7 7 "DeadTimeLoopModel" "now" "[J") (List.mem_of_getElem? (i := 1) rfl)) (fun _ h9 => h9) rfl dX7_watches_121 ?_
              refine lv_iload_n hx hb dX7_watches_124 rfl (lv_at hl 2 rfl) ?_
              refine lv_iconst (v := 3) hx hb dX7_watches_125 (by decide) ?_
              refine lv_iadd hx hb dX7_watches_126 ?_
              refine lv_lload_n hx hb dX7_watches_127 rfl (lv_at hl 1 rfl) ?_
              refine ka_last (D := gD Γ) (cl := vwCl) (tys := gTy Γ) hx hb hK hP hD hS 1 1 rfl rfl (661 + 5 * j + 3) (by rw [ey]; exact wat_ix' j 3) (by omega) (by decide) (wf := modW Γ a b ((vp_updL (vp_updL n1 (661 + 5 * j + 2) r_40) (661 + 5 * j + 3) r_40), (mAside μ), (mKept μ), (mKm μ), (mPar μ), (mParA μ), (mBef μ), (mUm μ), (mLow μ), (mHigh μ), (mNames μ), (mLen μ), (mText μ), (mPath μ), (mIdeal μ), (mSpot μ), (mWhich μ), (mNum μ))) rfl dX7_watches_128 (fun H locs hP hD hS => ?_)
              refine lv_aload_n hx hb dX7_watches_129 rfl (lv_at hl 3 rfl) ?_
              refine va_get (D := gD Γ) (cl := vwCl) (tys := gTy Γ) (ci := 7) (v := .ref (a (b + 1))) (C := RX7) (T := TX7) (N := 18) hx hb hts iX7_watches_7 hown hK hP 0 rfl rfl 0 (Nat.le_of_ble_eq_true rfl) (hts (.fieldLink RX7 7 "DeadTimeLoopModel" "now" "[J") (List.mem_of_getElem? (i := 1) rfl)) (fun _ h9 => h9) rfl dX7_watches_130 ?_
              refine lv_iload_n hx hb dX7_watches_133 rfl (lv_at hl 2 rfl) ?_
              refine lv_iconst (v := 4) hx hb dX7_watches_134 (by decide) ?_
              refine lv_iadd hx hb dX7_watches_135 ?_
              refine lv_aload_n hx hb dX7_watches_136 rfl (lv_at hl 3 rfl) ?_
              refine va_get (D := gD Γ) (cl := vwCl) (tys := gTy Γ) (ci := 7) (v := .ref (a (b + 1))) (C := RX7) (T := TX7) (N := 18) hx hb hts iX7_watches_7 hown hK hP 0 rfl rfl 0 (Nat.le_of_ble_eq_true rfl) (hts (.fieldLink RX7 7 "DeadTimeLoopModel" "now" "[J") (List.mem_of_getElem? (i := 1) rfl)) (fun _ h9 => h9) rfl dX7_watches_137 ?_
              refine lv_sipush (v := 640) hx hb dX7_watches_140 (by decide) ?_
              refine ka_lald (D := gD Γ) (cl := vwCl) (tys := gTy Γ) hx hb hK hP 1 1 rfl rfl 640 (by decide) (by decide) (by decide) (v := ((vp_updL (vp_updL n1 (661 + 5 * j + 2) r_40) (661 + 5 * j + 3) r_40) 640)) rfl dX7_watches_143 ?_
              refine lv_topl (fun r_144b er_144b => ?_)
              have er_144b : r_144b = ((vp_updL (vp_updL n1 (661 + 5 * j + 2) r_40) (661 + 5 * j + 3) r_40) 640) := er_144b
              refine ka_last (D := gD Γ) (cl := vwCl) (tys := gTy Γ) hx hb hK hP hD hS 1 1 rfl rfl (661 + 5 * j + 4) (by rw [ey]; exact wat_ix' j 4) (by omega) (by decide) (wf := modW Γ a b ((vp_updL (vp_updL (vp_updL n1 (661 + 5 * j + 2) r_40) (661 + 5 * j + 3) r_40) (661 + 5 * j + 4) r_144b), (mAside μ), (mKept μ), (mKm μ), (mPar μ), (mParA μ), (mBef μ), (mUm μ), (mLow μ), (mHigh μ), (mNames μ), (mLen μ), (mText μ), (mPath μ), (mIdeal μ), (mSpot μ), (mWhich μ), (mNum μ))) rfl dX7_watches_144 (fun H locs hP hD hS => ?_)
              refine lv_aload_n hx hb dX7_watches_145 rfl (lv_at hl 3 rfl) ?_
              refine va_get (D := gD Γ) (cl := vwCl) (tys := gTy Γ) (ci := 7) (v := .ref (a (b + 1))) (C := RX7) (T := TX7) (N := 18) hx hb hts iX7_watches_7 hown hK hP 0 rfl rfl 0 (Nat.le_of_ble_eq_true rfl) (hts (.fieldLink RX7 7 "DeadTimeLoopModel" "now" "[J") (List.mem_of_getElem? (i := 1) rfl)) (fun _ h9 => h9) rfl dX7_watches_146 ?_
              refine lv_iload_n hx hb dX7_watches_149 rfl (lv_at hl 2 rfl) ?_
              refine lv_iconst (v := 1) hx hb dX7_watches_150 (by decide) ?_
              refine lv_iadd hx hb dX7_watches_151 ?_
              refine lv_lconst (v := 1) hx hb dX7_watches_152 (by decide) ?_
              refine ka_last (D := gD Γ) (cl := vwCl) (tys := gTy Γ) hx hb hK hP hD hS 1 1 rfl rfl (661 + 5 * j + 1) (by rw [ey]; exact wat_ix' j 1) (by omega) (by decide) (wf := modW Γ a b ((vp_updL (vp_updL (vp_updL (vp_updL n1 (661 + 5 * j + 2) r_40) (661 + 5 * j + 3) r_40) (661 + 5 * j + 4) r_144b) (661 + 5 * j + 1) 1), (mAside μ), (mKept μ), (mKm μ), (mPar μ), (mParA μ), (mBef μ), (mUm μ), (mLow μ), (mHigh μ), (mNames μ), (mLen μ), (mText μ), (mPath μ), (mIdeal μ), (mSpot μ), (mWhich μ), (mNum μ))) rfl dX7_watches_153 (fun H locs hP hD hS => ?_)
              refine lv_iinc (v := (y + 1)) (lv' := [(1, .int (y + 1)), (5, .int 0), (3, .long r_40), (2, .int (661 + (5 * y))), (0, .ref (a b))]) hx hb dX7_watches_154 hl (k := 4) rfl rfl (by decide) rfl (fun ls hl => ?_)
              refine lv_goto (tgt := 2) hx hb dX7_watches_157 (by decide) ?_
              exact ih (j + 1) _ _ (by rw [ey]; exact nI_1 j) (by omega) (by omega) (by have q := mOk_wat1 (j := j) (n := n1) ⟨hT, wn, hW4, hW, hs⟩; simp only [mWat1, mWat2, mWat4, mWat3, mWat5, ← er_40, ← er_144b, c_13, c_54, c_86, c_117b, if_true, if_false, i32_10] at q; exact q) (by rw [← hg, mWatN_s, if_neg (by rw [← ey]; exact c_13)]; simp only [mWat1, mWat2, mWat4, mWat3, mWat5, ← er_40, ← er_144b, c_13, c_54, c_86, c_117b, if_true, if_false, i32_10]) _ _ _ hP hD hS (lv_sub hl [4, 0] rfl)
        · -- no
          have c_54 := (lg_cmp_eq _ _).mp c_54
          refine lv_iconst (v := 1) hx hb dX7_watches_57 (by decide) ?_
          refine lv_goto (tgt := 62) hx hb dX7_watches_58 (by decide) ?_
          refine lv_istore (lv' := [(5, .int 1), (3, .long r_40), (2, .int (661 + (5 * y))), (0, .ref (a b)), (1, .int y)]) hx hb dX7_watches_62 hl (by decide) rfl (fun ls hl => ?_)
          refine lv_aload_n hx hb dX7_watches_64 rfl (lv_at hl 3 rfl) ?_
          refine va_get (D := gD Γ) (cl := vwCl) (tys := gTy Γ) (ci := 7) (v := .ref (a (b + 1))) (C := RX7) (T := TX7) (N := 18) hx hb hts iX7_watches_7 hown hK hP 0 rfl rfl 0 (Nat.le_of_ble_eq_true rfl) (hts (.fieldLink RX7 7 "DeadTimeLoopModel" "now" "[J") (List.mem_of_getElem? (i := 1) rfl)) (fun _ h9 => h9) rfl dX7_watches_65 ?_
          refine lv_iload_n hx hb dX7_watches_68 rfl (lv_at hl 2 rfl) ?_
          refine lv_iconst (v := 2) hx hb dX7_watches_69 (by decide) ?_
          refine lv_iadd hx hb dX7_watches_70 ?_
          refine lv_iload hx hb dX7_watches_71 (lv_at hl 0 rfl) ?_
          refine lv_if_ne (tgt := 89) hx hb dX7_watches_73 (by decide) (fun _ => ?_) (fun c => absurd c (by decide))
          refine lv_lload_n hx hb dX7_watches_89 rfl (lv_at hl 1 rfl) ?_
          refine lv_goto (tgt := 101) hx hb dX7_watches_90 (by decide) ?_
          refine ka_last (D := gD Γ) (cl := vwCl) (tys := gTy Γ) hx hb hK hP hD hS 1 1 rfl rfl (661 + 5 * j + 2) (by rw [ey]; exact wat_ix' j 2) (by omega) (by decide) (wf := modW Γ a b ((vp_updL n1 (661 + 5 * j + 2) r_40), (mAside μ), (mKept μ), (mKm μ), (mPar μ), (mParA μ), (mBef μ), (mUm μ), (mLow μ), (mHigh μ), (mNames μ), (mLen μ), (mText μ), (mPath μ), (mIdeal μ), (mSpot μ), (mWhich μ), (mNum μ))) rfl dX7_watches_101 (fun H locs hP hD hS => ?_)
          refine lv_iload hx hb dX7_watches_102 (lv_at hl 0 rfl) ?_
          refine lv_if_ne (tgt := 120) hx hb dX7_watches_104 (by decide) (fun _ => ?_) (fun c => absurd c (by decide))
          refine lv_aload_n hx hb dX7_watches_120 rfl (lv_at hl 3 rfl) ?_
          refine va_get (D := gD Γ) (cl := vwCl) (tys := gTy Γ) (ci := 7) (v := .ref (a (b + 1))) (C := RX7) (T := TX7) (N := 18) hx hb hts iX7_watches_7 hown hK hP 0 rfl rfl 0 (Nat.le_of_ble_eq_true rfl) (hts (.fieldLink RX7 7 "DeadTimeLoopModel" "now" "[J") (List.mem_of_getElem? (i := 1) rfl)) (fun _ h9 => h9) rfl dX7_watches_121 ?_
          refine lv_iload_n hx hb dX7_watches_124 rfl (lv_at hl 2 rfl) ?_
          refine lv_iconst (v := 3) hx hb dX7_watches_125 (by decide) ?_
          refine lv_iadd hx hb dX7_watches_126 ?_
          refine lv_lload_n hx hb dX7_watches_127 rfl (lv_at hl 1 rfl) ?_
          refine ka_last (D := gD Γ) (cl := vwCl) (tys := gTy Γ) hx hb hK hP hD hS 1 1 rfl rfl (661 + 5 * j + 3) (by rw [ey]; exact wat_ix' j 3) (by omega) (by decide) (wf := modW Γ a b ((vp_updL (vp_updL n1 (661 + 5 * j + 2) r_40) (661 + 5 * j + 3) r_40), (mAside μ), (mKept μ), (mKm μ), (mPar μ), (mParA μ), (mBef μ), (mUm μ), (mLow μ), (mHigh μ), (mNames μ), (mLen μ), (mText μ), (mPath μ), (mIdeal μ), (mSpot μ), (mWhich μ), (mNum μ))) rfl dX7_watches_128 (fun H locs hP hD hS => ?_)
          refine lv_aload_n hx hb dX7_watches_129 rfl (lv_at hl 3 rfl) ?_
          refine va_get (D := gD Γ) (cl := vwCl) (tys := gTy Γ) (ci := 7) (v := .ref (a (b + 1))) (C := RX7) (T := TX7) (N := 18) hx hb hts iX7_watches_7 hown hK hP 0 rfl rfl 0 (Nat.le_of_ble_eq_true rfl) (hts (.fieldLink RX7 7 "DeadTimeLoopModel" "now" "[J") (List.mem_of_getElem? (i := 1) rfl)) (fun _ h9 => h9) rfl dX7_watches_130 ?_
          refine lv_iload_n hx hb dX7_watches_133 rfl (lv_at hl 2 rfl) ?_
          refine lv_iconst (v := 4) hx hb dX7_watches_134 (by decide) ?_
          refine lv_iadd hx hb dX7_watches_135 ?_
          refine lv_aload_n hx hb dX7_watches_136 rfl (lv_at hl 3 rfl) ?_
          refine va_get (D := gD Γ) (cl := vwCl) (tys := gTy Γ) (ci := 7) (v := .ref (a (b + 1))) (C := RX7) (T := TX7) (N := 18) hx hb hts iX7_watches_7 hown hK hP 0 rfl rfl 0 (Nat.le_of_ble_eq_true rfl) (hts (.fieldLink RX7 7 "DeadTimeLoopModel" "now" "[J") (List.mem_of_getElem? (i := 1) rfl)) (fun _ h9 => h9) rfl dX7_watches_137 ?_
          refine lv_sipush (v := 640) hx hb dX7_watches_140 (by decide) ?_
          refine ka_lald (D := gD Γ) (cl := vwCl) (tys := gTy Γ) hx hb hK hP 1 1 rfl rfl 640 (by decide) (by decide) (by decide) (v := ((vp_updL (vp_updL n1 (661 + 5 * j + 2) r_40) (661 + 5 * j + 3) r_40) 640)) rfl dX7_watches_143 ?_
          refine lv_topl (fun r_144c er_144c => ?_)
          have er_144c : r_144c = ((vp_updL (vp_updL n1 (661 + 5 * j + 2) r_40) (661 + 5 * j + 3) r_40) 640) := er_144c
          refine ka_last (D := gD Γ) (cl := vwCl) (tys := gTy Γ) hx hb hK hP hD hS 1 1 rfl rfl (661 + 5 * j + 4) (by rw [ey]; exact wat_ix' j 4) (by omega) (by decide) (wf := modW Γ a b ((vp_updL (vp_updL (vp_updL n1 (661 + 5 * j + 2) r_40) (661 + 5 * j + 3) r_40) (661 + 5 * j + 4) r_144c), (mAside μ), (mKept μ), (mKm μ), (mPar μ), (mParA μ), (mBef μ), (mUm μ), (mLow μ), (mHigh μ), (mNames μ), (mLen μ), (mText μ), (mPath μ), (mIdeal μ), (mSpot μ), (mWhich μ), (mNum μ))) rfl dX7_watches_144 (fun H locs hP hD hS => ?_)
          refine lv_aload_n hx hb dX7_watches_145 rfl (lv_at hl 3 rfl) ?_
          refine va_get (D := gD Γ) (cl := vwCl) (tys := gTy Γ) (ci := 7) (v := .ref (a (b + 1))) (C := RX7) (T := TX7) (N := 18) hx hb hts iX7_watches_7 hown hK hP 0 rfl rfl 0 (Nat.le_of_ble_eq_true rfl) (hts (.fieldLink RX7 7 "DeadTimeLoopModel" "now" "[J") (List.mem_of_getElem? (i := 1) rfl)) (fun _ h9 => h9) rfl dX7_watches_146 ?_
          refine lv_iload_n hx hb dX7_watches_149 rfl (lv_at hl 2 rfl) ?_
          refine lv_iconst (v := 1) hx hb dX7_watches_150 (by decide) ?_
          refine lv_iadd hx hb dX7_watches_151 ?_
          refine lv_lconst (v := 1) hx hb dX7_watches_152 (by decide) ?_
          refine ka_last (D := gD Γ) (cl := vwCl) (tys := gTy Γ) hx hb hK hP hD hS 1 1 rfl rfl (661 + 5 * j + 1) (by rw [ey]; exact wat_ix' j 1) (by omega) (by decide) (wf := modW Γ a b ((vp_updL (vp_updL (vp_updL (vp_updL n1 (661 + 5 * j + 2) r_40) (661 + 5 * j + 3) r_40) (661 + 5 * j + 4) r_144c) (661 + 5 * j + 1) 1), (mAside μ), (mKept μ), (mKm μ), (mPar μ), (mParA μ), (mBef μ), (mUm μ), (mLow μ), (mHigh μ), (mNames μ), (mLen μ), (mText μ), (mPath μ), (mIdeal μ), (mSpot μ), (mWhich μ), (mNum μ))) rfl dX7_watches_153 (fun H locs hP hD hS => ?_)
          refine lv_iinc (v := (y + 1)) (lv' := [(1, .int (y + 1)), (5, .int 1), (3, .long r_40), (2, .int (661 + (5 * y))), (0, .ref (a b))]) hx hb dX7_watches_154 hl (k := 4) rfl rfl (by decide) rfl (fun ls hl => ?_)
          refine lv_goto (tgt := 2) hx hb dX7_watches_157 (by decide) ?_
          exact ih (j + 1) _ _ (by rw [ey]; exact nI_1 j) (by omega) (by omega) (by have q := mOk_wat1 (j := j) (n := n1) ⟨hT, wn, hW4, hW, hs⟩; simp only [mWat1, mWat2, mWat4, mWat3, mWat5, ← er_40, ← er_144c, c_13, c_54, if_true, if_false, i32_10] at q; exact q) (by rw [← hg, mWatN_s, if_neg (by rw [← ey]; exact c_13)]; simp only [mWat1, mWat2, mWat4, mWat3, mWat5, ← er_40, ← er_144c, c_13, c_54, if_true, if_false, i32_10]) _ _ _ hP hD hS (lv_sub hl [4, 0] rfl)
  exact hJ_2 5 0 0 _ rfl (by omega) (by omega) hok rfl _ _ _ hP hD hS (lv_sub hl [1, 0] rfl)
def rm_X7_ticks : Room := { frames := 2, cells := 0, slots := 0, locals := 61 }
theorem iX7_ticks_7 : ∀ w ∈ u_ws RX7 TX7 18, w ∈ wsX7_ticks := fun w h => (List.mem_cons_of_mem _ (List.mem_append_right _ h))
set_option maxHeartbeats 1000000 in
set_option maxRecDepth 100000 in
theorem c_X7_ticks (Γ : gT) (l : Launch) (a : Nat → Nat) (b : Nat) (μ : Mst) (hok : mOk (mNow μ)) : Cv Γ l yX7_ticks wsX7_ticks rm_X7_ticks [.ref (a b)] (modW Γ a b μ) (modW Γ a b (mPut_now μ (mTick (mNow μ) (mPar μ) (mIdeal μ)))) := by
  refine Cv.of (cc := cX7_ticks) (own := RX7) (nL := 5) (ret := none) (by decide +kernel) rfl rfl (Nat.le_of_ble_eq_true rfl) ?_
  intro p e s m args below meth c A Q H locs ls ha hAe hQ hx hb hml hr hts hown hlk hP hK hD hS hA hG hl
  have hh : Hd Γ p s m args c cX7_ticks RX7 5 wsX7_ticks A := ⟨⟨hx, hb, hml, hown, hts⟩, hK, hA, hG⟩
  have hl : lv_has ls 5 [(0, .ref (a b))] := hl
  refine lv_aload_n hx hb dX7_ticks_0 rfl (lv_at hl 0 rfl) ?_
  refine va_get (D := gD Γ) (cl := vwCl) (tys := gTy Γ) (ci := 7) (v := .ref (a (b + 1))) (C := RX7) (T := TX7) (N := 18) hx hb hts iX7_ticks_7 hown hK hP 0 rfl rfl 0 (Nat.le_of_ble_eq_true rfl) (hts (.fieldLink RX7 7 "DeadTimeLoopModel" "now" "[J") (List.mem_of_getElem? (i := 1) rfl)) (fun _ h9 => h9) rfl dX7_ticks_1 ?_
  refine lv_sipush (v := 652) hx hb dX7_ticks_4 (by decide) ?_
  refine lv_aload_n hx hb dX7_ticks_7 rfl (lv_at hl 0 rfl) ?_
  refine va_get (D := gD Γ) (cl := vwCl) (tys := gTy Γ) (ci := 7) (v := .ref (a (b + 1))) (C := RX7) (T := TX7) (N := 18) hx hb hts iX7_ticks_7 hown hK hP 0 rfl rfl 0 (Nat.le_of_ble_eq_true rfl) (hts (.fieldLink RX7 7 "DeadTimeLoopModel" "now" "[J") (List.mem_of_getElem? (i := 1) rfl)) (fun _ h9 => h9) rfl dX7_ticks_8 ?_
  refine lv_sipush (v := 644) hx hb dX7_ticks_11 (by decide) ?_
  refine ka_lald (D := gD Γ) (cl := vwCl) (tys := gTy Γ) hx hb hK hP 1 1 rfl rfl 644 (by decide) (by decide) (by decide) (v := ((mNow μ) 644)) rfl dX7_ticks_14 ?_
  refine lv_aload_n hx hb dX7_ticks_15 rfl (lv_at hl 0 rfl) ?_
  refine ca_Vla hh hl.1 (c_X7_noise Γ l a b μ) (cwV 0 hts gX7_ticks_X7_noise rfl rfl rfl (by decide +kernel) ⟨(Nat.le_of_ble_eq_true rfl), (Nat.le_of_ble_eq_true rfl)⟩) (As := []) (rest := [.long ((mNow μ) 644), .int 652, .ref (a (b + 1))]) rfl dX7_ticks_16 rfl (Nat.le_of_ble_eq_true rfl) hP hD hS (q0 := 0) (ci := 7) rfl rfl rfl (wf := modW Γ a b μ) rfl ⟨Nat.zero_le _, Nat.zero_le _⟩ (fun H locs hP hD hS => ?_)
  refine lv_ladd hx hb dX7_ticks_19 ?_
  refine ka_last (D := gD Γ) (cl := vwCl) (tys := gTy Γ) hx hb hK hP hD hS 1 1 rfl rfl 652 (by decide) (by decide) (by decide) (wf := modW Γ a b ((vp_updL (mNow μ) 652 (((mNow μ) 644) + (mNoise (mNow μ) (mPar μ)))), (mAside μ), (mKept μ), (mKm μ), (mPar μ), (mParA μ), (mBef μ), (mUm μ), (mLow μ), (mHigh μ), (mNames μ), (mLen μ), (mText μ), (mPath μ), (mIdeal μ), (mSpot μ), (mWhich μ), (mNum μ))) rfl dX7_ticks_20 (fun H locs hP hD hS => ?_)
  refine lv_aload_n hx hb dX7_ticks_21 rfl (lv_at hl 0 rfl) ?_
  refine lv_iconst (v := 3) hx hb dX7_ticks_22 (by decide) ?_
  refine lv_aload_n hx hb dX7_ticks_23 rfl (lv_at hl 0 rfl) ?_
  refine va_get (D := gD Γ) (cl := vwCl) (tys := gTy Γ) (ci := 7) (v := .ref (a (b + 1))) (C := RX7) (T := TX7) (N := 18) hx hb hts iX7_ticks_7 hown hK hP 0 rfl rfl 0 (Nat.le_of_ble_eq_true rfl) (hts (.fieldLink RX7 7 "DeadTimeLoopModel" "now" "[J") (List.mem_of_getElem? (i := 1) rfl)) (fun _ h9 => h9) rfl dX7_ticks_24 ?_
  refine lv_sipush (v := 645) hx hb dX7_ticks_27 (by decide) ?_
  refine ka_lald (D := gD Γ) (cl := vwCl) (tys := gTy Γ) hx hb hK hP 1 1 rfl rfl 645 (by decide) (by decide) (by decide) (v := ((mNow μ) 645)) rfl dX7_ticks_30 ?_
  obtain ⟨u_31, eu_31⟩ : ∃ z : Nat → Int64, z = mRec (vp_updL (mNow μ) 652 (((mNow μ) 644) + (mNoise (mNow μ) (mPar μ)))) 3 ((mNow μ) 645) := ⟨_, rfl⟩
  have hM_31 : Cv Γ l yX7_records wsX7_records rm_X7_records [.ref (a b), .int 3, .long ((mNow μ) 645)] (modW Γ a b ((vp_updL (mNow μ) 652 (((mNow μ) 644) + (mNoise (mNow μ) (mPar μ)))), (mAside μ), (mKept μ), (mKm μ), (mPar μ), (mParA μ), (mBef μ), (mUm μ), (mLow μ), (mHigh μ), (mNames μ), (mLen μ), (mText μ), (mPath μ), (mIdeal μ), (mSpot μ), (mWhich μ), (mNum μ))) (modW Γ a b (u_31, (mAside μ), (mKept μ), (mKm μ), (mPar μ), (mParA μ), (mBef μ), (mUm μ), (mLow μ), (mHigh μ), (mNames μ), (mLen μ), (mText μ), (mPath μ), (mIdeal μ), (mSpot μ), (mWhich μ), (mNum μ))) := by rw [eu_31]; exact c_X7_records Γ l a b ((vp_updL (mNow μ) 652 (((mNow μ) 644) + (mNoise (mNow μ) (mPar μ)))), (mAside μ), (mKept μ), (mKm μ), (mPar μ), (mParA μ), (mBef μ), (mUm μ), (mLow μ), (mHigh μ), (mNames μ), (mLen μ), (mText μ), (mPath μ), (mIdeal μ), (mSpot μ), (mWhich μ), (mNum μ)) 3 ((mNow μ) 645) (vin_lit 3 (by decide) (by decide) rfl) (mOk_upd (by decide) hok)
  refine ca_Vva hh hl.1 hM_31 (cwV 2 hts gX7_ticks_X7_records rfl rfl rfl (by decide +kernel) ⟨(Nat.le_of_ble_eq_true rfl), (Nat.le_of_ble_eq_true rfl)⟩) (As := [.int 3, .long ((mNow μ) 645)]) (rest := []) rfl dX7_ticks_31 rfl (Nat.le_of_ble_eq_true rfl) hP hD hS (q0 := 0) (ci := 7) rfl rfl rfl (wf := modW Γ a b (u_31, (mAside μ), (mKept μ), (mKm μ), (mPar μ), (mParA μ), (mBef μ), (mUm μ), (mLow μ), (mHigh μ), (mNames μ), (mLen μ), (mText μ), (mPath μ), (mIdeal μ), (mSpot μ), (mWhich μ), (mNum μ))) rfl ⟨Nat.zero_le _, Nat.zero_le _⟩ (fun H locs hP hD hS => ?_)
  refine lv_aload_n hx hb dX7_ticks_34 rfl (lv_at hl 0 rfl) ?_
  refine lv_bipush (v := 8) hx hb dX7_ticks_35 (by decide) ?_
  refine lv_aload_n hx hb dX7_ticks_37 rfl (lv_at hl 0 rfl) ?_
  refine va_get (D := gD Γ) (cl := vwCl) (tys := gTy Γ) (ci := 7) (v := .ref (a (b + 1))) (C := RX7) (T := TX7) (N := 18) hx hb hts iX7_ticks_7 hown hK hP 0 rfl rfl 0 (Nat.le_of_ble_eq_true rfl) (hts (.fieldLink RX7 7 "DeadTimeLoopModel" "now" "[J") (List.mem_of_getElem? (i := 1) rfl)) (fun _ h9 => h9) rfl dX7_ticks_38 ?_
  refine lv_sipush (v := 644) hx hb dX7_ticks_41 (by decide) ?_
  refine ka_lald (D := gD Γ) (cl := vwCl) (tys := gTy Γ) hx hb hK hP 1 1 rfl rfl 644 (by decide) (by decide) (by decide) (v := (u_31 644)) rfl dX7_ticks_44 ?_
  obtain ⟨u_45, eu_45⟩ : ∃ z : Nat → Int64, z = mRec u_31 8 (u_31 644) := ⟨_, rfl⟩
  have hM_45 : Cv Γ l yX7_records wsX7_records rm_X7_records [.ref (a b), .int 8, .long (u_31 644)] (modW Γ a b (u_31, (mAside μ), (mKept μ), (mKm μ), (mPar μ), (mParA μ), (mBef μ), (mUm μ), (mLow μ), (mHigh μ), (mNames μ), (mLen μ), (mText μ), (mPath μ), (mIdeal μ), (mSpot μ), (mWhich μ), (mNum μ))) (modW Γ a b (u_45, (mAside μ), (mKept μ), (mKm μ), (mPar μ), (mParA μ), (mBef μ), (mUm μ), (mLow μ), (mHigh μ), (mNames μ), (mLen μ), (mText μ), (mPath μ), (mIdeal μ), (mSpot μ), (mWhich μ), (mNum μ))) := by rw [eu_45]; exact c_X7_records Γ l a b (u_31, (mAside μ), (mKept μ), (mKm μ), (mPar μ), (mParA μ), (mBef μ), (mUm μ), (mLow μ), (mHigh μ), (mNames μ), (mLen μ), (mText μ), (mPath μ), (mIdeal μ), (mSpot μ), (mWhich μ), (mNum μ)) 8 (u_31 644) (vin_lit 8 (by decide) (by decide) rfl) (by rw [eu_31]; exact mOk_rec (vin_lit 3 (by decide) (by decide) rfl) (mOk_upd (by decide) hok))
  refine ca_Vva hh hl.1 hM_45 (cwV 2 hts gX7_ticks_X7_records rfl rfl rfl (by decide +kernel) ⟨(Nat.le_of_ble_eq_true rfl), (Nat.le_of_ble_eq_true rfl)⟩) (As := [.int 8, .long (u_31 644)]) (rest := []) rfl dX7_ticks_45 rfl (Nat.le_of_ble_eq_true rfl) hP hD hS (q0 := 0) (ci := 7) rfl rfl rfl (wf := modW Γ a b (u_45, (mAside μ), (mKept μ), (mKm μ), (mPar μ), (mParA μ), (mBef μ), (mUm μ), (mLow μ), (mHigh μ), (mNames μ), (mLen μ), (mText μ), (mPath μ), (mIdeal μ), (mSpot μ), (mWhich μ), (mNum μ))) rfl ⟨Nat.zero_le _, Nat.zero_le _⟩ (fun H locs hP hD hS => ?_)
  have hk1 : mOk u_45 := by rw [eu_45, eu_31]; exact mOk_rec (vin_lit 8 (by decide) (by decide) rfl) (mOk_rec (vin_lit 3 (by decide) (by decide) rfl) (mOk_upd (by decide) hok))
  refine lv_aload_n hx hb dX7_ticks_48 rfl (lv_at hl 0 rfl) ?_
  refine va_get (D := gD Γ) (cl := vwCl) (tys := gTy Γ) (ci := 7) (v := .ref (a (b + 1))) (C := RX7) (T := TX7) (N := 18) hx hb hts iX7_ticks_7 hown hK hP 0 rfl rfl 0 (Nat.le_of_ble_eq_true rfl) (hts (.fieldLink RX7 7 "DeadTimeLoopModel" "now" "[J") (List.mem_of_getElem? (i := 1) rfl)) (fun _ h9 => h9) rfl dX7_ticks_49 ?_
  refine lv_sipush (v := 653) hx hb dX7_ticks_52 (by decide) ?_
  refine lv_aload_n hx hb dX7_ticks_55 rfl (lv_at hl 0 rfl) ?_
  refine lv_iconst (v := 3) hx hb dX7_ticks_56 (by decide) ?_
  refine lv_aload_n hx hb dX7_ticks_57 rfl (lv_at hl 0 rfl) ?_
  refine va_get (D := gD Γ) (cl := vwCl) (tys := gTy Γ) (ci := 7) (v := .ref (a (b + 4))) (C := RX7) (T := TX7) (N := 18) hx hb hts iX7_ticks_7 hown hK hP 0 rfl rfl 4 (Nat.le_of_ble_eq_true rfl) (hts (.fieldLink RX7 19 "DeadTimeLoopModel" "par" "[I") (List.mem_of_getElem? (i := 2) rfl)) (fun _ h9 => h9) rfl dX7_ticks_58 ?_
  refine lv_bipush (v := 7) hx hb dX7_ticks_61 (by decide) ?_
  refine ka_iald (D := gD Γ) (cl := vwCl) (tys := gTy Γ) hx hb hK hP 4 0 rfl rfl 7 (by decide) (by decide) (by decide) (v := ((mPar μ) 7)) rfl dX7_ticks_63 ?_
  refine ca_Vla hh hl.1 (c_X7_delayed Γ l a b (u_45, (mAside μ), (mKept μ), (mKm μ), (mPar μ), (mParA μ), (mBef μ), (mUm μ), (mLow μ), (mHigh μ), (mNames μ), (mLen μ), (mText μ), (mPath μ), (mIdeal μ), (mSpot μ), (mWhich μ), (mNum μ)) 3 ((mPar μ) 7) (vin_lit 3 (by decide) (by decide) rfl)) (cwV 2 hts gX7_ticks_X7_delayed rfl rfl rfl (by decide +kernel) ⟨(Nat.le_of_ble_eq_true rfl), (Nat.le_of_ble_eq_true rfl)⟩) (As := [.int 3, .int ((mPar μ) 7)]) (rest := [.int 653, .ref (a (b + 1))]) rfl dX7_ticks_64 rfl (Nat.le_of_ble_eq_true rfl) hP hD hS (q0 := 0) (ci := 7) rfl rfl rfl (wf := modW Γ a b (u_45, (mAside μ), (mKept μ), (mKm μ), (mPar μ), (mParA μ), (mBef μ), (mUm μ), (mLow μ), (mHigh μ), (mNames μ), (mLen μ), (mText μ), (mPath μ), (mIdeal μ), (mSpot μ), (mWhich μ), (mNum μ))) rfl ⟨Nat.zero_le _, Nat.zero_le _⟩ (fun H locs hP hD hS => ?_)
  refine ka_last (D := gD Γ) (cl := vwCl) (tys := gTy Γ) hx hb hK hP hD hS 1 1 rfl rfl 653 (by decide) (by decide) (by decide) (wf := modW Γ a b ((vp_updL u_45 653 (mDel u_45 3 ((mPar μ) 7))), (mAside μ), (mKept μ), (mKm μ), (mPar μ), (mParA μ), (mBef μ), (mUm μ), (mLow μ), (mHigh μ), (mNames μ), (mLen μ), (mText μ), (mPath μ), (mIdeal μ), (mSpot μ), (mWhich μ), (mNum μ))) rfl dX7_ticks_67 (fun H locs hP hD hS => ?_)
  refine lv_aload_n hx hb dX7_ticks_68 rfl (lv_at hl 0 rfl) ?_
  refine va_get (D := gD Γ) (cl := vwCl) (tys := gTy Γ) (ci := 7) (v := .ref (a (b + 1))) (C := RX7) (T := TX7) (N := 18) hx hb hts iX7_ticks_7 hown hK hP 0 rfl rfl 0 (Nat.le_of_ble_eq_true rfl) (hts (.fieldLink RX7 7 "DeadTimeLoopModel" "now" "[J") (List.mem_of_getElem? (i := 1) rfl)) (fun _ h9 => h9) rfl dX7_ticks_69 ?_
  refine lv_sipush (v := 652) hx hb dX7_ticks_72 (by decide) ?_
  refine ka_lald (D := gD Γ) (cl := vwCl) (tys := gTy Γ) hx hb hK hP 1 1 rfl rfl 652 (by decide) (by decide) (by decide) (v := (u_45 652)) rfl dX7_ticks_75 ?_
  refine lv_aload_n hx hb dX7_ticks_76 rfl (lv_at hl 0 rfl) ?_
  refine va_get (D := gD Γ) (cl := vwCl) (tys := gTy Γ) (ci := 7) (v := .ref (a (b + 1))) (C := RX7) (T := TX7) (N := 18) hx hb hts iX7_ticks_7 hown hK hP 0 rfl rfl 0 (Nat.le_of_ble_eq_true rfl) (hts (.fieldLink RX7 7 "DeadTimeLoopModel" "now" "[J") (List.mem_of_getElem? (i := 1) rfl)) (fun _ h9 => h9) rfl dX7_ticks_77 ?_
  refine lv_sipush (v := 653) hx hb dX7_ticks_80 (by decide) ?_
  refine ka_lald (D := gD Γ) (cl := vwCl) (tys := gTy Γ) hx hb hK hP 1 1 rfl rfl 653 (by decide) (by decide) (by decide) (v := (mDel u_45 3 ((mPar μ) 7))) rfl dX7_ticks_83 ?_
  refine lv_lsub hx hb dX7_ticks_84 ?_
  refine lv_lstore_n (lv' := [(1, .long ((u_45 652) - (mDel u_45 3 ((mPar μ) 7)))), (0, .ref (a b))]) hx hb dX7_ticks_85 rfl hl (by decide) rfl (fun ls hl => ?_)
  refine lv_aload_n hx hb dX7_ticks_86 rfl (lv_at hl 1 rfl) ?_
  refine va_get (D := gD Γ) (cl := vwCl) (tys := gTy Γ) (ci := 7) (v := .ref (a (b + 1))) (C := RX7) (T := TX7) (N := 18) hx hb hts iX7_ticks_7 hown hK hP 0 rfl rfl 0 (Nat.le_of_ble_eq_true rfl) (hts (.fieldLink RX7 7 "DeadTimeLoopModel" "now" "[J") (List.mem_of_getElem? (i := 1) rfl)) (fun _ h9 => h9) rfl dX7_ticks_87 ?_
  refine lv_sipush (v := 646) hx hb dX7_ticks_90 (by decide) ?_
  refine lv_aload_n hx hb dX7_ticks_93 rfl (lv_at hl 1 rfl) ?_
  refine lv_aload_n hx hb dX7_ticks_94 rfl (lv_at hl 1 rfl) ?_
  refine va_get (D := gD Γ) (cl := vwCl) (tys := gTy Γ) (ci := 7) (v := .ref (a (b + 1))) (C := RX7) (T := TX7) (N := 18) hx hb hts iX7_ticks_7 hown hK hP 0 rfl rfl 0 (Nat.le_of_ble_eq_true rfl) (hts (.fieldLink RX7 7 "DeadTimeLoopModel" "now" "[J") (List.mem_of_getElem? (i := 1) rfl)) (fun _ h9 => h9) rfl dX7_ticks_95 ?_
  refine lv_sipush (v := 646) hx hb dX7_ticks_98 (by decide) ?_
  refine ka_lald (D := gD Γ) (cl := vwCl) (tys := gTy Γ) hx hb hK hP 1 1 rfl rfl 646 (by decide) (by decide) (by decide) (v := (u_45 646)) rfl dX7_ticks_101 ?_
  refine lv_lload_n hx hb dX7_ticks_102 rfl (lv_at hl 0 rfl) ?_
  refine lv_sipush (v := 1000) hx hb dX7_ticks_103 (by decide) ?_
  refine lv_aload_n hx hb dX7_ticks_106 rfl (lv_at hl 1 rfl) ?_
  refine va_get (D := gD Γ) (cl := vwCl) (tys := gTy Γ) (ci := 7) (v := .ref (a (b + 4))) (C := RX7) (T := TX7) (N := 18) hx hb hts iX7_ticks_7 hown hK hP 0 rfl rfl 4 (Nat.le_of_ble_eq_true rfl) (hts (.fieldLink RX7 19 "DeadTimeLoopModel" "par" "[I") (List.mem_of_getElem? (i := 2) rfl)) (fun _ h9 => h9) rfl dX7_ticks_107 ?_
  refine lv_bipush (v := 8) hx hb dX7_ticks_110 (by decide) ?_
  refine ka_iald (D := gD Γ) (cl := vwCl) (tys := gTy Γ) hx hb hK hP 4 0 rfl rfl 8 (by decide) (by decide) (by decide) (v := ((mPar μ) 8)) rfl dX7_ticks_112 ?_
  refine lv_isub hx hb dX7_ticks_113 ?_
  refine ca_Vla hh hl.1 (c_X7_steps Γ l a b ((vp_updL u_45 653 (mDel u_45 3 ((mPar μ) 7))), (mAside μ), (mKept μ), (mKm μ), (mPar μ), (mParA μ), (mBef μ), (mUm μ), (mLow μ), (mHigh μ), (mNames μ), (mLen μ), (mText μ), (mPath μ), (mIdeal μ), (mSpot μ), (mWhich μ), (mNum μ)) (u_45 646) ((u_45 652) - (mDel u_45 3 ((mPar μ) 7))) (1000 - ((mPar μ) 8))) (cwV 3 hts gX7_ticks_X7_steps rfl rfl rfl (by decide +kernel) ⟨(Nat.le_of_ble_eq_true rfl), (Nat.le_of_ble_eq_true rfl)⟩) (As := [.long (u_45 646), .long ((u_45 652) - (mDel u_45 3 ((mPar μ) 7))), .int (1000 - ((mPar μ) 8))]) (rest := [.int 646, .ref (a (b + 1))]) rfl dX7_ticks_114 rfl (Nat.le_of_ble_eq_true rfl) hP hD hS (q0 := 0) (ci := 7) rfl rfl rfl (wf := modW Γ a b ((vp_updL u_45 653 (mDel u_45 3 ((mPar μ) 7))), (mAside μ), (mKept μ), (mKm μ), (mPar μ), (mParA μ), (mBef μ), (mUm μ), (mLow μ), (mHigh μ), (mNames μ), (mLen μ), (mText μ), (mPath μ), (mIdeal μ), (mSpot μ), (mWhich μ), (mNum μ))) rfl ⟨Nat.zero_le _, Nat.zero_le _⟩ (fun H locs hP hD hS => ?_)
  refine ka_last (D := gD Γ) (cl := vwCl) (tys := gTy Γ) hx hb hK hP hD hS 1 1 rfl rfl 646 (by decide) (by decide) (by decide) (wf := modW Γ a b ((vp_updL (vp_updL u_45 653 (mDel u_45 3 ((mPar μ) 7))) 646 (mSteps (u_45 646) ((u_45 652) - (mDel u_45 3 ((mPar μ) 7))) (1000 - ((mPar μ) 8)))), (mAside μ), (mKept μ), (mKm μ), (mPar μ), (mParA μ), (mBef μ), (mUm μ), (mLow μ), (mHigh μ), (mNames μ), (mLen μ), (mText μ), (mPath μ), (mIdeal μ), (mSpot μ), (mWhich μ), (mNum μ))) rfl dX7_ticks_117 (fun H locs hP hD hS => ?_)
  refine lv_aload_n hx hb dX7_ticks_118 rfl (lv_at hl 1 rfl) ?_
  refine lv_lload_n hx hb dX7_ticks_119 rfl (lv_at hl 0 rfl) ?_
  obtain ⟨u_120, eu_120⟩ : ∃ z : Nat → Int64, z = mJud (vp_updL (vp_updL u_45 653 (mDel u_45 3 ((mPar μ) 7))) 646 (mSteps (u_45 646) ((u_45 652) - (mDel u_45 3 ((mPar μ) 7))) (1000 - ((mPar μ) 8)))) (mPar μ) ((u_45 652) - (mDel u_45 3 ((mPar μ) 7))) := ⟨_, rfl⟩
  have hM_120 : Cv Γ l yX7_judges wsX7_judges rm_X7_judges [.ref (a b), .long ((u_45 652) - (mDel u_45 3 ((mPar μ) 7)))] (modW Γ a b ((vp_updL (vp_updL u_45 653 (mDel u_45 3 ((mPar μ) 7))) 646 (mSteps (u_45 646) ((u_45 652) - (mDel u_45 3 ((mPar μ) 7))) (1000 - ((mPar μ) 8)))), (mAside μ), (mKept μ), (mKm μ), (mPar μ), (mParA μ), (mBef μ), (mUm μ), (mLow μ), (mHigh μ), (mNames μ), (mLen μ), (mText μ), (mPath μ), (mIdeal μ), (mSpot μ), (mWhich μ), (mNum μ))) (modW Γ a b (u_120, (mAside μ), (mKept μ), (mKm μ), (mPar μ), (mParA μ), (mBef μ), (mUm μ), (mLow μ), (mHigh μ), (mNames μ), (mLen μ), (mText μ), (mPath μ), (mIdeal μ), (mSpot μ), (mWhich μ), (mNum μ))) := by rw [eu_120]; exact c_X7_judges Γ l a b ((vp_updL (vp_updL u_45 653 (mDel u_45 3 ((mPar μ) 7))) 646 (mSteps (u_45 646) ((u_45 652) - (mDel u_45 3 ((mPar μ) 7))) (1000 - ((mPar μ) 8)))), (mAside μ), (mKept μ), (mKm μ), (mPar μ), (mParA μ), (mBef μ), (mUm μ), (mLow μ), (mHigh μ), (mNames μ), (mLen μ), (mText μ), (mPath μ), (mIdeal μ), (mSpot μ), (mWhich μ), (mNum μ)) ((u_45 652) - (mDel u_45 3 ((mPar μ) 7)))
  refine ca_Vva hh hl.1 hM_120 (cwV 1 hts gX7_ticks_X7_judges rfl rfl rfl (by decide +kernel) ⟨(Nat.le_of_ble_eq_true rfl), (Nat.le_of_ble_eq_true rfl)⟩) (As := [.long ((u_45 652) - (mDel u_45 3 ((mPar μ) 7)))]) (rest := []) rfl dX7_ticks_120 rfl (Nat.le_of_ble_eq_true rfl) hP hD hS (q0 := 0) (ci := 7) rfl rfl rfl (wf := modW Γ a b (u_120, (mAside μ), (mKept μ), (mKm μ), (mPar μ), (mParA μ), (mBef μ), (mUm μ), (mLow μ), (mHigh μ), (mNames μ), (mLen μ), (mText μ), (mPath μ), (mIdeal μ), (mSpot μ), (mWhich μ), (mNum μ))) rfl ⟨Nat.zero_le _, Nat.zero_le _⟩ (fun H locs hP hD hS => ?_)
  refine lv_aload_n hx hb dX7_ticks_123 rfl (lv_at hl 1 rfl) ?_
  obtain ⟨u_124, eu_124⟩ : ∃ z : Nat → Int64, z = mCtl u_120 (mPar μ) (mIdeal μ) := ⟨_, rfl⟩
  have hM_124 : Cv Γ l yX7_controls wsX7_controls rm_X7_controls [.ref (a b)] (modW Γ a b (u_120, (mAside μ), (mKept μ), (mKm μ), (mPar μ), (mParA μ), (mBef μ), (mUm μ), (mLow μ), (mHigh μ), (mNames μ), (mLen μ), (mText μ), (mPath μ), (mIdeal μ), (mSpot μ), (mWhich μ), (mNum μ))) (modW Γ a b (u_124, (mAside μ), (mKept μ), (mKm μ), (mPar μ), (mParA μ), (mBef μ), (mUm μ), (mLow μ), (mHigh μ), (mNames μ), (mLen μ), (mText μ), (mPath μ), (mIdeal μ), (mSpot μ), (mWhich μ), (mNum μ))) := by rw [eu_124]; exact c_X7_controls Γ l a b (u_120, (mAside μ), (mKept μ), (mKm μ), (mPar μ), (mParA μ), (mBef μ), (mUm μ), (mLow μ), (mHigh μ), (mNames μ), (mLen μ), (mText μ), (mPath μ), (mIdeal μ), (mSpot μ), (mWhich μ), (mNum μ))
  refine ca_Vva hh hl.1 hM_124 (cwV 0 hts gX7_ticks_X7_controls rfl rfl rfl (by decide +kernel) ⟨(Nat.le_of_ble_eq_true rfl), (Nat.le_of_ble_eq_true rfl)⟩) (As := []) (rest := []) rfl dX7_ticks_124 rfl (Nat.le_of_ble_eq_true rfl) hP hD hS (q0 := 0) (ci := 7) rfl rfl rfl (wf := modW Γ a b (u_124, (mAside μ), (mKept μ), (mKm μ), (mPar μ), (mParA μ), (mBef μ), (mUm μ), (mLow μ), (mHigh μ), (mNames μ), (mLen μ), (mText μ), (mPath μ), (mIdeal μ), (mSpot μ), (mWhich μ), (mNum μ))) rfl ⟨Nat.zero_le _, Nat.zero_le _⟩ (fun H locs hP hD hS => ?_)
  have hk2 : mOk u_124 := by rw [eu_124, eu_120]; exact mOk_ctl (mOk_jud (mOk_upd (by decide) (mOk_upd (by decide) hk1)))
  refine lv_aload_n hx hb dX7_ticks_127 rfl (lv_at hl 1 rfl) ?_
  refine lv_iconst (v := 2) hx hb dX7_ticks_128 (by decide) ?_
  refine lv_aload_n hx hb dX7_ticks_129 rfl (lv_at hl 1 rfl) ?_
  refine va_get (D := gD Γ) (cl := vwCl) (tys := gTy Γ) (ci := 7) (v := .ref (a (b + 1))) (C := RX7) (T := TX7) (N := 18) hx hb hts iX7_ticks_7 hown hK hP 0 rfl rfl 0 (Nat.le_of_ble_eq_true rfl) (hts (.fieldLink RX7 7 "DeadTimeLoopModel" "now" "[J") (List.mem_of_getElem? (i := 1) rfl)) (fun _ h9 => h9) rfl dX7_ticks_130 ?_
  refine lv_sipush (v := 651) hx hb dX7_ticks_133 (by decide) ?_
  refine ka_lald (D := gD Γ) (cl := vwCl) (tys := gTy Γ) hx hb hK hP 1 1 rfl rfl 651 (by decide) (by decide) (by decide) (v := (u_124 651)) rfl dX7_ticks_136 ?_
  obtain ⟨u_137, eu_137⟩ : ∃ z : Nat → Int64, z = mRec u_124 2 (u_124 651) := ⟨_, rfl⟩
  have hM_137 : Cv Γ l yX7_records wsX7_records rm_X7_records [.ref (a b), .int 2, .long (u_124 651)] (modW Γ a b (u_124, (mAside μ), (mKept μ), (mKm μ), (mPar μ), (mParA μ), (mBef μ), (mUm μ), (mLow μ), (mHigh μ), (mNames μ), (mLen μ), (mText μ), (mPath μ), (mIdeal μ), (mSpot μ), (mWhich μ), (mNum μ))) (modW Γ a b (u_137, (mAside μ), (mKept μ), (mKm μ), (mPar μ), (mParA μ), (mBef μ), (mUm μ), (mLow μ), (mHigh μ), (mNames μ), (mLen μ), (mText μ), (mPath μ), (mIdeal μ), (mSpot μ), (mWhich μ), (mNum μ))) := by rw [eu_137]; exact c_X7_records Γ l a b (u_124, (mAside μ), (mKept μ), (mKm μ), (mPar μ), (mParA μ), (mBef μ), (mUm μ), (mLow μ), (mHigh μ), (mNames μ), (mLen μ), (mText μ), (mPath μ), (mIdeal μ), (mSpot μ), (mWhich μ), (mNum μ)) 2 (u_124 651) (vin_lit 2 (by decide) (by decide) rfl) hk2
  refine ca_Vva hh hl.1 hM_137 (cwV 2 hts gX7_ticks_X7_records rfl rfl rfl (by decide +kernel) ⟨(Nat.le_of_ble_eq_true rfl), (Nat.le_of_ble_eq_true rfl)⟩) (As := [.int 2, .long (u_124 651)]) (rest := []) rfl dX7_ticks_137 rfl (Nat.le_of_ble_eq_true rfl) hP hD hS (q0 := 0) (ci := 7) rfl rfl rfl (wf := modW Γ a b (u_137, (mAside μ), (mKept μ), (mKm μ), (mPar μ), (mParA μ), (mBef μ), (mUm μ), (mLow μ), (mHigh μ), (mNames μ), (mLen μ), (mText μ), (mPath μ), (mIdeal μ), (mSpot μ), (mWhich μ), (mNum μ))) rfl ⟨Nat.zero_le _, Nat.zero_le _⟩ (fun H locs hP hD hS => ?_)
  have hJ_162 : ∀ (v3 : Int64), (v3 = mDel u_137 2 (mDd (mPar μ) (mIdeal μ))) → ∀ (H : Heap) (locs : List Loc) (ls : Array Slot), va_P (gD Γ) vwCl (modW Γ a b (u_137, (mAside μ), (mKept μ), (mKm μ), (mPar μ), (mParA μ), (mBef μ), (mUm μ), (mLow μ), (mHigh μ), (mNames μ), (mLen μ), (mText μ), (mPath μ), (mIdeal μ), (mSpot μ), (mWhich μ), (mNum μ))) H → va_D A (modW Γ a b (u_137, (mAside μ), (mKept μ), (mKm μ), (mPar μ), (mParA μ), (mBef μ), (mUm μ), (mLow μ), (mHigh μ), (mNames μ), (mLen μ), (mText μ), (mPath μ), (mIdeal μ), (mSpot μ), (mWhich μ), (mNum μ))) → va_S A s.heap H locs → lv_has ls 5 [(0, .ref (a b))] → W p l e rm_X7_ticks s m args below meth c H locs 0 0 Q (F0 m 162 ls [.long v3]) := by
    intro v3 e3 H locs ls hP hD hS hl
    have hk3 : mOk u_137 := by rw [eu_137]; exact mOk_rec (vin_lit 2 (by decide) (by decide) rfl) hk2
    refine lv_lstore_n (lv' := [(3, .long v3), (0, .ref (a b))]) hx hb dX7_ticks_162 rfl hl (by decide) rfl (fun ls hl => ?_)
    refine lv_aload_n hx hb dX7_ticks_163 rfl (lv_at hl 1 rfl) ?_
    refine lv_iconst (v := 0) hx hb dX7_ticks_164 (by decide) ?_
    refine lv_aload_n hx hb dX7_ticks_165 rfl (lv_at hl 1 rfl) ?_
    refine va_get (D := gD Γ) (cl := vwCl) (tys := gTy Γ) (ci := 7) (v := .ref (a (b + 1))) (C := RX7) (T := TX7) (N := 18) hx hb hts iX7_ticks_7 hown hK hP 0 rfl rfl 0 (Nat.le_of_ble_eq_true rfl) (hts (.fieldLink RX7 7 "DeadTimeLoopModel" "now" "[J") (List.mem_of_getElem? (i := 1) rfl)) (fun _ h9 => h9) rfl dX7_ticks_166 ?_
    refine lv_sipush (v := 641) hx hb dX7_ticks_169 (by decide) ?_
    refine ka_lald (D := gD Γ) (cl := vwCl) (tys := gTy Γ) hx hb hK hP 1 1 rfl rfl 641 (by decide) (by decide) (by decide) (v := (u_137 641)) rfl dX7_ticks_172 ?_
    obtain ⟨u_173, eu_173⟩ : ∃ z : Nat → Int64, z = mRec u_137 0 (u_137 641) := ⟨_, rfl⟩
    have hM_173 : Cv Γ l yX7_records wsX7_records rm_X7_records [.ref (a b), .int 0, .long (u_137 641)] (modW Γ a b (u_137, (mAside μ), (mKept μ), (mKm μ), (mPar μ), (mParA μ), (mBef μ), (mUm μ), (mLow μ), (mHigh μ), (mNames μ), (mLen μ), (mText μ), (mPath μ), (mIdeal μ), (mSpot μ), (mWhich μ), (mNum μ))) (modW Γ a b (u_173, (mAside μ), (mKept μ), (mKm μ), (mPar μ), (mParA μ), (mBef μ), (mUm μ), (mLow μ), (mHigh μ), (mNames μ), (mLen μ), (mText μ), (mPath μ), (mIdeal μ), (mSpot μ), (mWhich μ), (mNum μ))) := by rw [eu_173]; exact c_X7_records Γ l a b (u_137, (mAside μ), (mKept μ), (mKm μ), (mPar μ), (mParA μ), (mBef μ), (mUm μ), (mLow μ), (mHigh μ), (mNames μ), (mLen μ), (mText μ), (mPath μ), (mIdeal μ), (mSpot μ), (mWhich μ), (mNum μ)) 0 (u_137 641) (vin_lit 0 (by decide) (by decide) rfl) hk3
    refine ca_Vva hh hl.1 hM_173 (cwV 2 hts gX7_ticks_X7_records rfl rfl rfl (by decide +kernel) ⟨(Nat.le_of_ble_eq_true rfl), (Nat.le_of_ble_eq_true rfl)⟩) (As := [.int 0, .long (u_137 641)]) (rest := []) rfl dX7_ticks_173 rfl (Nat.le_of_ble_eq_true rfl) hP hD hS (q0 := 0) (ci := 7) rfl rfl rfl (wf := modW Γ a b (u_173, (mAside μ), (mKept μ), (mKm μ), (mPar μ), (mParA μ), (mBef μ), (mUm μ), (mLow μ), (mHigh μ), (mNames μ), (mLen μ), (mText μ), (mPath μ), (mIdeal μ), (mSpot μ), (mWhich μ), (mNum μ))) rfl ⟨Nat.zero_le _, Nat.zero_le _⟩ (fun H locs hP hD hS => ?_)
    have hk4 : mOk u_173 := by rw [eu_173]; exact mOk_rec (vin_lit 0 (by decide) (by decide) rfl) hk3
    refine lv_aload_n hx hb dX7_ticks_176 rfl (lv_at hl 1 rfl) ?_
    refine lv_iconst (v := 1) hx hb dX7_ticks_177 (by decide) ?_
    refine lv_aload_n hx hb dX7_ticks_178 rfl (lv_at hl 1 rfl) ?_
    refine va_get (D := gD Γ) (cl := vwCl) (tys := gTy Γ) (ci := 7) (v := .ref (a (b + 1))) (C := RX7) (T := TX7) (N := 18) hx hb hts iX7_ticks_7 hown hK hP 0 rfl rfl 0 (Nat.le_of_ble_eq_true rfl) (hts (.fieldLink RX7 7 "DeadTimeLoopModel" "now" "[J") (List.mem_of_getElem? (i := 1) rfl)) (fun _ h9 => h9) rfl dX7_ticks_179 ?_
    refine lv_sipush (v := 652) hx hb dX7_ticks_182 (by decide) ?_
    refine ka_lald (D := gD Γ) (cl := vwCl) (tys := gTy Γ) hx hb hK hP 1 1 rfl rfl 652 (by decide) (by decide) (by decide) (v := (u_173 652)) rfl dX7_ticks_185 ?_
    obtain ⟨u_186, eu_186⟩ : ∃ z : Nat → Int64, z = mRec u_173 1 (u_173 652) := ⟨_, rfl⟩
    have hM_186 : Cv Γ l yX7_records wsX7_records rm_X7_records [.ref (a b), .int 1, .long (u_173 652)] (modW Γ a b (u_173, (mAside μ), (mKept μ), (mKm μ), (mPar μ), (mParA μ), (mBef μ), (mUm μ), (mLow μ), (mHigh μ), (mNames μ), (mLen μ), (mText μ), (mPath μ), (mIdeal μ), (mSpot μ), (mWhich μ), (mNum μ))) (modW Γ a b (u_186, (mAside μ), (mKept μ), (mKm μ), (mPar μ), (mParA μ), (mBef μ), (mUm μ), (mLow μ), (mHigh μ), (mNames μ), (mLen μ), (mText μ), (mPath μ), (mIdeal μ), (mSpot μ), (mWhich μ), (mNum μ))) := by rw [eu_186]; exact c_X7_records Γ l a b (u_173, (mAside μ), (mKept μ), (mKm μ), (mPar μ), (mParA μ), (mBef μ), (mUm μ), (mLow μ), (mHigh μ), (mNames μ), (mLen μ), (mText μ), (mPath μ), (mIdeal μ), (mSpot μ), (mWhich μ), (mNum μ)) 1 (u_173 652) (vin_lit 1 (by decide) (by decide) rfl) hk4
    refine ca_Vva hh hl.1 hM_186 (cwV 2 hts gX7_ticks_X7_records rfl rfl rfl (by decide +kernel) ⟨(Nat.le_of_ble_eq_true rfl), (Nat.le_of_ble_eq_true rfl)⟩) (As := [.int 1, .long (u_173 652)]) (rest := []) rfl dX7_ticks_186 rfl (Nat.le_of_ble_eq_true rfl) hP hD hS (q0 := 0) (ci := 7) rfl rfl rfl (wf := modW Γ a b (u_186, (mAside μ), (mKept μ), (mKm μ), (mPar μ), (mParA μ), (mBef μ), (mUm μ), (mLow μ), (mHigh μ), (mNames μ), (mLen μ), (mText μ), (mPath μ), (mIdeal μ), (mSpot μ), (mWhich μ), (mNum μ))) rfl ⟨Nat.zero_le _, Nat.zero_le _⟩ (fun H locs hP hD hS => ?_)
    have hk5 : mOk u_186 := by rw [eu_186]; exact mOk_rec (vin_lit 1 (by decide) (by decide) rfl) hk4
    refine lv_aload_n hx hb dX7_ticks_189 rfl (lv_at hl 1 rfl) ?_
    refine lv_iconst (v := 4) hx hb dX7_ticks_190 (by decide) ?_
    refine lv_aload_n hx hb dX7_ticks_191 rfl (lv_at hl 1 rfl) ?_
    refine va_get (D := gD Γ) (cl := vwCl) (tys := gTy Γ) (ci := 7) (v := .ref (a (b + 1))) (C := RX7) (T := TX7) (N := 18) hx hb hts iX7_ticks_7 hown hK hP 0 rfl rfl 0 (Nat.le_of_ble_eq_true rfl) (hts (.fieldLink RX7 7 "DeadTimeLoopModel" "now" "[J") (List.mem_of_getElem? (i := 1) rfl)) (fun _ h9 => h9) rfl dX7_ticks_192 ?_
    refine lv_sipush (v := 653) hx hb dX7_ticks_195 (by decide) ?_
    refine ka_lald (D := gD Γ) (cl := vwCl) (tys := gTy Γ) hx hb hK hP 1 1 rfl rfl 653 (by decide) (by decide) (by decide) (v := (u_186 653)) rfl dX7_ticks_198 ?_
    obtain ⟨u_199, eu_199⟩ : ∃ z : Nat → Int64, z = mRec u_186 4 (u_186 653) := ⟨_, rfl⟩
    have hM_199 : Cv Γ l yX7_records wsX7_records rm_X7_records [.ref (a b), .int 4, .long (u_186 653)] (modW Γ a b (u_186, (mAside μ), (mKept μ), (mKm μ), (mPar μ), (mParA μ), (mBef μ), (mUm μ), (mLow μ), (mHigh μ), (mNames μ), (mLen μ), (mText μ), (mPath μ), (mIdeal μ), (mSpot μ), (mWhich μ), (mNum μ))) (modW Γ a b (u_199, (mAside μ), (mKept μ), (mKm μ), (mPar μ), (mParA μ), (mBef μ), (mUm μ), (mLow μ), (mHigh μ), (mNames μ), (mLen μ), (mText μ), (mPath μ), (mIdeal μ), (mSpot μ), (mWhich μ), (mNum μ))) := by rw [eu_199]; exact c_X7_records Γ l a b (u_186, (mAside μ), (mKept μ), (mKm μ), (mPar μ), (mParA μ), (mBef μ), (mUm μ), (mLow μ), (mHigh μ), (mNames μ), (mLen μ), (mText μ), (mPath μ), (mIdeal μ), (mSpot μ), (mWhich μ), (mNum μ)) 4 (u_186 653) (vin_lit 4 (by decide) (by decide) rfl) hk5
    refine ca_Vva hh hl.1 hM_199 (cwV 2 hts gX7_ticks_X7_records rfl rfl rfl (by decide +kernel) ⟨(Nat.le_of_ble_eq_true rfl), (Nat.le_of_ble_eq_true rfl)⟩) (As := [.int 4, .long (u_186 653)]) (rest := []) rfl dX7_ticks_199 rfl (Nat.le_of_ble_eq_true rfl) hP hD hS (q0 := 0) (ci := 7) rfl rfl rfl (wf := modW Γ a b (u_199, (mAside μ), (mKept μ), (mKm μ), (mPar μ), (mParA μ), (mBef μ), (mUm μ), (mLow μ), (mHigh μ), (mNames μ), (mLen μ), (mText μ), (mPath μ), (mIdeal μ), (mSpot μ), (mWhich μ), (mNum μ))) rfl ⟨Nat.zero_le _, Nat.zero_le _⟩ (fun H locs hP hD hS => ?_)
    have hk6 : mOk u_199 := by rw [eu_199]; exact mOk_rec (vin_lit 4 (by decide) (by decide) rfl) hk5
    refine lv_aload_n hx hb dX7_ticks_202 rfl (lv_at hl 1 rfl) ?_
    refine lv_iconst (v := 5) hx hb dX7_ticks_203 (by decide) ?_
    refine lv_aload_n hx hb dX7_ticks_204 rfl (lv_at hl 1 rfl) ?_
    refine va_get (D := gD Γ) (cl := vwCl) (tys := gTy Γ) (ci := 7) (v := .ref (a (b + 1))) (C := RX7) (T := TX7) (N := 18) hx hb hts iX7_ticks_7 hown hK hP 0 rfl rfl 0 (Nat.le_of_ble_eq_true rfl) (hts (.fieldLink RX7 7 "DeadTimeLoopModel" "now" "[J") (List.mem_of_getElem? (i := 1) rfl)) (fun _ h9 => h9) rfl dX7_ticks_205 ?_
    refine lv_sipush (v := 646) hx hb dX7_ticks_208 (by decide) ?_
    refine ka_lald (D := gD Γ) (cl := vwCl) (tys := gTy Γ) hx hb hK hP 1 1 rfl rfl 646 (by decide) (by decide) (by decide) (v := (u_199 646)) rfl dX7_ticks_211 ?_
    obtain ⟨u_212, eu_212⟩ : ∃ z : Nat → Int64, z = mRec u_199 5 (u_199 646) := ⟨_, rfl⟩
    have hM_212 : Cv Γ l yX7_records wsX7_records rm_X7_records [.ref (a b), .int 5, .long (u_199 646)] (modW Γ a b (u_199, (mAside μ), (mKept μ), (mKm μ), (mPar μ), (mParA μ), (mBef μ), (mUm μ), (mLow μ), (mHigh μ), (mNames μ), (mLen μ), (mText μ), (mPath μ), (mIdeal μ), (mSpot μ), (mWhich μ), (mNum μ))) (modW Γ a b (u_212, (mAside μ), (mKept μ), (mKm μ), (mPar μ), (mParA μ), (mBef μ), (mUm μ), (mLow μ), (mHigh μ), (mNames μ), (mLen μ), (mText μ), (mPath μ), (mIdeal μ), (mSpot μ), (mWhich μ), (mNum μ))) := by rw [eu_212]; exact c_X7_records Γ l a b (u_199, (mAside μ), (mKept μ), (mKm μ), (mPar μ), (mParA μ), (mBef μ), (mUm μ), (mLow μ), (mHigh μ), (mNames μ), (mLen μ), (mText μ), (mPath μ), (mIdeal μ), (mSpot μ), (mWhich μ), (mNum μ)) 5 (u_199 646) (vin_lit 5 (by decide) (by decide) rfl) hk6
    refine ca_Vva hh hl.1 hM_212 (cwV 2 hts gX7_ticks_X7_records rfl rfl rfl (by decide +kernel) ⟨(Nat.le_of_ble_eq_true rfl), (Nat.le_of_ble_eq_true rfl)⟩) (As := [.int 5, .long (u_199 646)]) (rest := []) rfl dX7_ticks_212 rfl (Nat.le_of_ble_eq_true rfl) hP hD hS (q0 := 0) (ci := 7) rfl rfl rfl (wf := modW Γ a b (u_212, (mAside μ), (mKept μ), (mKm μ), (mPar μ), (mParA μ), (mBef μ), (mUm μ), (mLow μ), (mHigh μ), (mNames μ), (mLen μ), (mText μ), (mPath μ), (mIdeal μ), (mSpot μ), (mWhich μ), (mNum μ))) rfl ⟨Nat.zero_le _, Nat.zero_le _⟩ (fun H locs hP hD hS => ?_)
    have hk7 : mOk u_212 := by rw [eu_212]; exact mOk_rec (vin_lit 5 (by decide) (by decide) rfl) hk6
    refine lv_aload_n hx hb dX7_ticks_215 rfl (lv_at hl 1 rfl) ?_
    refine lv_bipush (v := 6) hx hb dX7_ticks_216 (by decide) ?_
    refine lv_aload_n hx hb dX7_ticks_218 rfl (lv_at hl 1 rfl) ?_
    refine va_get (D := gD Γ) (cl := vwCl) (tys := gTy Γ) (ci := 7) (v := .ref (a (b + 1))) (C := RX7) (T := TX7) (N := 18) hx hb hts iX7_ticks_7 hown hK hP 0 rfl rfl 0 (Nat.le_of_ble_eq_true rfl) (hts (.fieldLink RX7 7 "DeadTimeLoopModel" "now" "[J") (List.mem_of_getElem? (i := 1) rfl)) (fun _ h9 => h9) rfl dX7_ticks_219 ?_
    refine lv_sipush (v := 654) hx hb dX7_ticks_222 (by decide) ?_
    refine ka_lald (D := gD Γ) (cl := vwCl) (tys := gTy Γ) hx hb hK hP 1 1 rfl rfl 654 (by decide) (by decide) (by decide) (v := (u_212 654)) rfl dX7_ticks_225 ?_
    obtain ⟨u_226, eu_226⟩ : ∃ z : Nat → Int64, z = mRec u_212 6 (u_212 654) := ⟨_, rfl⟩
    have hM_226 : Cv Γ l yX7_records wsX7_records rm_X7_records [.ref (a b), .int 6, .long (u_212 654)] (modW Γ a b (u_212, (mAside μ), (mKept μ), (mKm μ), (mPar μ), (mParA μ), (mBef μ), (mUm μ), (mLow μ), (mHigh μ), (mNames μ), (mLen μ), (mText μ), (mPath μ), (mIdeal μ), (mSpot μ), (mWhich μ), (mNum μ))) (modW Γ a b (u_226, (mAside μ), (mKept μ), (mKm μ), (mPar μ), (mParA μ), (mBef μ), (mUm μ), (mLow μ), (mHigh μ), (mNames μ), (mLen μ), (mText μ), (mPath μ), (mIdeal μ), (mSpot μ), (mWhich μ), (mNum μ))) := by rw [eu_226]; exact c_X7_records Γ l a b (u_212, (mAside μ), (mKept μ), (mKm μ), (mPar μ), (mParA μ), (mBef μ), (mUm μ), (mLow μ), (mHigh μ), (mNames μ), (mLen μ), (mText μ), (mPath μ), (mIdeal μ), (mSpot μ), (mWhich μ), (mNum μ)) 6 (u_212 654) (vin_lit 6 (by decide) (by decide) rfl) hk7
    refine ca_Vva hh hl.1 hM_226 (cwV 2 hts gX7_ticks_X7_records rfl rfl rfl (by decide +kernel) ⟨(Nat.le_of_ble_eq_true rfl), (Nat.le_of_ble_eq_true rfl)⟩) (As := [.int 6, .long (u_212 654)]) (rest := []) rfl dX7_ticks_226 rfl (Nat.le_of_ble_eq_true rfl) hP hD hS (q0 := 0) (ci := 7) rfl rfl rfl (wf := modW Γ a b (u_226, (mAside μ), (mKept μ), (mKm μ), (mPar μ), (mParA μ), (mBef μ), (mUm μ), (mLow μ), (mHigh μ), (mNames μ), (mLen μ), (mText μ), (mPath μ), (mIdeal μ), (mSpot μ), (mWhich μ), (mNum μ))) rfl ⟨Nat.zero_le _, Nat.zero_le _⟩ (fun H locs hP hD hS => ?_)
    have hk8 : mOk u_226 := by rw [eu_226]; exact mOk_rec (vin_lit 6 (by decide) (by decide) rfl) hk7
    refine lv_aload_n hx hb dX7_ticks_229 rfl (lv_at hl 1 rfl) ?_
    refine lv_bipush (v := 7) hx hb dX7_ticks_230 (by decide) ?_
    refine lv_aload_n hx hb dX7_ticks_232 rfl (lv_at hl 1 rfl) ?_
    refine va_get (D := gD Γ) (cl := vwCl) (tys := gTy Γ) (ci := 7) (v := .ref (a (b + 1))) (C := RX7) (T := TX7) (N := 18) hx hb hts iX7_ticks_7 hown hK hP 0 rfl rfl 0 (Nat.le_of_ble_eq_true rfl) (hts (.fieldLink RX7 7 "DeadTimeLoopModel" "now" "[J") (List.mem_of_getElem? (i := 1) rfl)) (fun _ h9 => h9) rfl dX7_ticks_233 ?_
    refine lv_sipush (v := 647) hx hb dX7_ticks_236 (by decide) ?_
    refine ka_lald (D := gD Γ) (cl := vwCl) (tys := gTy Γ) hx hb hK hP 1 1 rfl rfl 647 (by decide) (by decide) (by decide) (v := (u_226 647)) rfl dX7_ticks_239 ?_
    obtain ⟨u_240, eu_240⟩ : ∃ z : Nat → Int64, z = mRec u_226 7 (u_226 647) := ⟨_, rfl⟩
    have hM_240 : Cv Γ l yX7_records wsX7_records rm_X7_records [.ref (a b), .int 7, .long (u_226 647)] (modW Γ a b (u_226, (mAside μ), (mKept μ), (mKm μ), (mPar μ), (mParA μ), (mBef μ), (mUm μ), (mLow μ), (mHigh μ), (mNames μ), (mLen μ), (mText μ), (mPath μ), (mIdeal μ), (mSpot μ), (mWhich μ), (mNum μ))) (modW Γ a b (u_240, (mAside μ), (mKept μ), (mKm μ), (mPar μ), (mParA μ), (mBef μ), (mUm μ), (mLow μ), (mHigh μ), (mNames μ), (mLen μ), (mText μ), (mPath μ), (mIdeal μ), (mSpot μ), (mWhich μ), (mNum μ))) := by rw [eu_240]; exact c_X7_records Γ l a b (u_226, (mAside μ), (mKept μ), (mKm μ), (mPar μ), (mParA μ), (mBef μ), (mUm μ), (mLow μ), (mHigh μ), (mNames μ), (mLen μ), (mText μ), (mPath μ), (mIdeal μ), (mSpot μ), (mWhich μ), (mNum μ)) 7 (u_226 647) (vin_lit 7 (by decide) (by decide) rfl) hk8
    refine ca_Vva hh hl.1 hM_240 (cwV 2 hts gX7_ticks_X7_records rfl rfl rfl (by decide +kernel) ⟨(Nat.le_of_ble_eq_true rfl), (Nat.le_of_ble_eq_true rfl)⟩) (As := [.int 7, .long (u_226 647)]) (rest := []) rfl dX7_ticks_240 rfl (Nat.le_of_ble_eq_true rfl) hP hD hS (q0 := 0) (ci := 7) rfl rfl rfl (wf := modW Γ a b (u_240, (mAside μ), (mKept μ), (mKm μ), (mPar μ), (mParA μ), (mBef μ), (mUm μ), (mLow μ), (mHigh μ), (mNames μ), (mLen μ), (mText μ), (mPath μ), (mIdeal μ), (mSpot μ), (mWhich μ), (mNum μ))) rfl ⟨Nat.zero_le _, Nat.zero_le _⟩ (fun H locs hP hD hS => ?_)
    have hk9 : mOk u_240 := by rw [eu_240]; exact mOk_rec (vin_lit 7 (by decide) (by decide) rfl) hk8
    refine lv_aload_n hx hb dX7_ticks_243 rfl (lv_at hl 1 rfl) ?_
    refine lv_bipush (v := 9) hx hb dX7_ticks_244 (by decide) ?_
    refine lv_aload_n hx hb dX7_ticks_246 rfl (lv_at hl 1 rfl) ?_
    refine va_get (D := gD Γ) (cl := vwCl) (tys := gTy Γ) (ci := 7) (v := .ref (a (b + 1))) (C := RX7) (T := TX7) (N := 18) hx hb hts iX7_ticks_7 hown hK hP 0 rfl rfl 0 (Nat.le_of_ble_eq_true rfl) (hts (.fieldLink RX7 7 "DeadTimeLoopModel" "now" "[J") (List.mem_of_getElem? (i := 1) rfl)) (fun _ h9 => h9) rfl dX7_ticks_247 ?_
    refine lv_sipush (v := 648) hx hb dX7_ticks_250 (by decide) ?_
    refine ka_lald (D := gD Γ) (cl := vwCl) (tys := gTy Γ) hx hb hK hP 1 1 rfl rfl 648 (by decide) (by decide) (by decide) (v := (u_240 648)) rfl dX7_ticks_253 ?_
    obtain ⟨u_254, eu_254⟩ : ∃ z : Nat → Int64, z = mRec u_240 9 (u_240 648) := ⟨_, rfl⟩
    have hM_254 : Cv Γ l yX7_records wsX7_records rm_X7_records [.ref (a b), .int 9, .long (u_240 648)] (modW Γ a b (u_240, (mAside μ), (mKept μ), (mKm μ), (mPar μ), (mParA μ), (mBef μ), (mUm μ), (mLow μ), (mHigh μ), (mNames μ), (mLen μ), (mText μ), (mPath μ), (mIdeal μ), (mSpot μ), (mWhich μ), (mNum μ))) (modW Γ a b (u_254, (mAside μ), (mKept μ), (mKm μ), (mPar μ), (mParA μ), (mBef μ), (mUm μ), (mLow μ), (mHigh μ), (mNames μ), (mLen μ), (mText μ), (mPath μ), (mIdeal μ), (mSpot μ), (mWhich μ), (mNum μ))) := by rw [eu_254]; exact c_X7_records Γ l a b (u_240, (mAside μ), (mKept μ), (mKm μ), (mPar μ), (mParA μ), (mBef μ), (mUm μ), (mLow μ), (mHigh μ), (mNames μ), (mLen μ), (mText μ), (mPath μ), (mIdeal μ), (mSpot μ), (mWhich μ), (mNum μ)) 9 (u_240 648) (vin_lit 9 (by decide) (by decide) rfl) hk9
    refine ca_Vva hh hl.1 hM_254 (cwV 2 hts gX7_ticks_X7_records rfl rfl rfl (by decide +kernel) ⟨(Nat.le_of_ble_eq_true rfl), (Nat.le_of_ble_eq_true rfl)⟩) (As := [.int 9, .long (u_240 648)]) (rest := []) rfl dX7_ticks_254 rfl (Nat.le_of_ble_eq_true rfl) hP hD hS (q0 := 0) (ci := 7) rfl rfl rfl (wf := modW Γ a b (u_254, (mAside μ), (mKept μ), (mKm μ), (mPar μ), (mParA μ), (mBef μ), (mUm μ), (mLow μ), (mHigh μ), (mNames μ), (mLen μ), (mText μ), (mPath μ), (mIdeal μ), (mSpot μ), (mWhich μ), (mNum μ))) rfl ⟨Nat.zero_le _, Nat.zero_le _⟩ (fun H locs hP hD hS => ?_)
    have hk10 : mOk u_254 := by rw [eu_254]; exact mOk_rec (vin_lit 9 (by decide) (by decide) rfl) hk9
    refine lv_aload_n hx hb dX7_ticks_257 rfl (lv_at hl 1 rfl) ?_
    obtain ⟨u_258, eu_258⟩ : ∃ z : Nat → Int64, z = mMea u_254 := ⟨_, rfl⟩
    have hM_258 : Cv Γ l yX7_measures wsX7_measures rm_X7_measures [.ref (a b)] (modW Γ a b (u_254, (mAside μ), (mKept μ), (mKm μ), (mPar μ), (mParA μ), (mBef μ), (mUm μ), (mLow μ), (mHigh μ), (mNames μ), (mLen μ), (mText μ), (mPath μ), (mIdeal μ), (mSpot μ), (mWhich μ), (mNum μ))) (modW Γ a b (u_258, (mAside μ), (mKept μ), (mKm μ), (mPar μ), (mParA μ), (mBef μ), (mUm μ), (mLow μ), (mHigh μ), (mNames μ), (mLen μ), (mText μ), (mPath μ), (mIdeal μ), (mSpot μ), (mWhich μ), (mNum μ))) := by rw [eu_258]; exact c_X7_measures Γ l a b (u_254, (mAside μ), (mKept μ), (mKm μ), (mPar μ), (mParA μ), (mBef μ), (mUm μ), (mLow μ), (mHigh μ), (mNames μ), (mLen μ), (mText μ), (mPath μ), (mIdeal μ), (mSpot μ), (mWhich μ), (mNum μ))
    refine ca_Vva hh hl.1 hM_258 (cwV 0 hts gX7_ticks_X7_measures rfl rfl rfl (by decide +kernel) ⟨(Nat.le_of_ble_eq_true rfl), (Nat.le_of_ble_eq_true rfl)⟩) (As := []) (rest := []) rfl dX7_ticks_258 rfl (Nat.le_of_ble_eq_true rfl) hP hD hS (q0 := 0) (ci := 7) rfl rfl rfl (wf := modW Γ a b (u_258, (mAside μ), (mKept μ), (mKm μ), (mPar μ), (mParA μ), (mBef μ), (mUm μ), (mLow μ), (mHigh μ), (mNames μ), (mLen μ), (mText μ), (mPath μ), (mIdeal μ), (mSpot μ), (mWhich μ), (mNum μ))) rfl ⟨Nat.zero_le _, Nat.zero_le _⟩ (fun H locs hP hD hS => ?_)
    refine lv_aload_n hx hb dX7_ticks_261 rfl (lv_at hl 1 rfl) ?_
    obtain ⟨u_262, eu_262⟩ : ∃ z : Nat → Int64, z = mWat u_258 := ⟨_, rfl⟩
    have hM_262 : Cv Γ l yX7_watches wsX7_watches rm_X7_watches [.ref (a b)] (modW Γ a b (u_258, (mAside μ), (mKept μ), (mKm μ), (mPar μ), (mParA μ), (mBef μ), (mUm μ), (mLow μ), (mHigh μ), (mNames μ), (mLen μ), (mText μ), (mPath μ), (mIdeal μ), (mSpot μ), (mWhich μ), (mNum μ))) (modW Γ a b (u_262, (mAside μ), (mKept μ), (mKm μ), (mPar μ), (mParA μ), (mBef μ), (mUm μ), (mLow μ), (mHigh μ), (mNames μ), (mLen μ), (mText μ), (mPath μ), (mIdeal μ), (mSpot μ), (mWhich μ), (mNum μ))) := by rw [eu_262]; exact c_X7_watches Γ l a b (u_258, (mAside μ), (mKept μ), (mKm μ), (mPar μ), (mParA μ), (mBef μ), (mUm μ), (mLow μ), (mHigh μ), (mNames μ), (mLen μ), (mText μ), (mPath μ), (mIdeal μ), (mSpot μ), (mWhich μ), (mNum μ)) (by rw [eu_258]; exact mOk_mea hk10)
    refine ca_Vva hh hl.1 hM_262 (cwV 0 hts gX7_ticks_X7_watches rfl rfl rfl (by decide +kernel) ⟨(Nat.le_of_ble_eq_true rfl), (Nat.le_of_ble_eq_true rfl)⟩) (As := []) (rest := []) rfl dX7_ticks_262 rfl (Nat.le_of_ble_eq_true rfl) hP hD hS (q0 := 0) (ci := 7) rfl rfl rfl (wf := modW Γ a b (u_262, (mAside μ), (mKept μ), (mKm μ), (mPar μ), (mParA μ), (mBef μ), (mUm μ), (mLow μ), (mHigh μ), (mNames μ), (mLen μ), (mText μ), (mPath μ), (mIdeal μ), (mSpot μ), (mWhich μ), (mNum μ))) rfl ⟨Nat.zero_le _, Nat.zero_le _⟩ (fun H locs hP hD hS => ?_)
    refine lv_aload_n hx hb dX7_ticks_265 rfl (lv_at hl 1 rfl) ?_
    refine va_get (D := gD Γ) (cl := vwCl) (tys := gTy Γ) (ci := 7) (v := .ref (a (b + 1))) (C := RX7) (T := TX7) (N := 18) hx hb hts iX7_ticks_7 hown hK hP 0 rfl rfl 0 (Nat.le_of_ble_eq_true rfl) (hts (.fieldLink RX7 7 "DeadTimeLoopModel" "now" "[J") (List.mem_of_getElem? (i := 1) rfl)) (fun _ h9 => h9) rfl dX7_ticks_266 ?_
    refine lv_sipush (v := 644) hx hb dX7_ticks_269 (by decide) ?_
    refine lv_aload_n hx hb dX7_ticks_272 rfl (lv_at hl 1 rfl) ?_
    refine lv_aload_n hx hb dX7_ticks_273 rfl (lv_at hl 1 rfl) ?_
    refine va_get (D := gD Γ) (cl := vwCl) (tys := gTy Γ) (ci := 7) (v := .ref (a (b + 1))) (C := RX7) (T := TX7) (N := 18) hx hb hts iX7_ticks_7 hown hK hP 0 rfl rfl 0 (Nat.le_of_ble_eq_true rfl) (hts (.fieldLink RX7 7 "DeadTimeLoopModel" "now" "[J") (List.mem_of_getElem? (i := 1) rfl)) (fun _ h9 => h9) rfl dX7_ticks_274 ?_
    refine lv_sipush (v := 644) hx hb dX7_ticks_277 (by decide) ?_
    refine ka_lald (D := gD Γ) (cl := vwCl) (tys := gTy Γ) hx hb hK hP 1 1 rfl rfl 644 (by decide) (by decide) (by decide) (v := (u_262 644)) rfl dX7_ticks_280 ?_
    refine lv_aload_n hx hb dX7_ticks_281 rfl (lv_at hl 1 rfl) ?_
    refine va_get (D := gD Γ) (cl := vwCl) (tys := gTy Γ) (ci := 7) (v := .ref (a (b + 4))) (C := RX7) (T := TX7) (N := 18) hx hb hts iX7_ticks_7 hown hK hP 0 rfl rfl 4 (Nat.le_of_ble_eq_true rfl) (hts (.fieldLink RX7 19 "DeadTimeLoopModel" "par" "[I") (List.mem_of_getElem? (i := 2) rfl)) (fun _ h9 => h9) rfl dX7_ticks_282 ?_
    refine lv_iconst (v := 2) hx hb dX7_ticks_285 (by decide) ?_
    refine ka_iald (D := gD Γ) (cl := vwCl) (tys := gTy Γ) hx hb hK hP 4 0 rfl rfl 2 (by decide) (by decide) (by decide) (v := ((mPar μ) 2)) rfl dX7_ticks_286 ?_
    refine lv_i2l (v := ((mPar μ) 2).toInt64) hx hb dX7_ticks_287 rfl ?_
    refine lv_lload_n hx hb dX7_ticks_288 rfl (lv_at hl 0 rfl) ?_
    refine lv_aload_n hx hb dX7_ticks_289 rfl (lv_at hl 1 rfl) ?_
    refine va_get (D := gD Γ) (cl := vwCl) (tys := gTy Γ) (ci := 7) (v := .ref (a (b + 1))) (C := RX7) (T := TX7) (N := 18) hx hb hts iX7_ticks_7 hown hK hP 0 rfl rfl 0 (Nat.le_of_ble_eq_true rfl) (hts (.fieldLink RX7 7 "DeadTimeLoopModel" "now" "[J") (List.mem_of_getElem? (i := 1) rfl)) (fun _ h9 => h9) rfl dX7_ticks_290 ?_
    refine lv_sipush (v := 642) hx hb dX7_ticks_293 (by decide) ?_
    refine ka_lald (D := gD Γ) (cl := vwCl) (tys := gTy Γ) hx hb hK hP 1 1 rfl rfl 642 (by decide) (by decide) (by decide) (v := (u_262 642)) rfl dX7_ticks_296 ?_
    refine lv_ladd hx hb dX7_ticks_297 ?_
    refine lv_lmul hx hb dX7_ticks_298 ?_
    refine lv_ldc2 hx hb hown (hts (.constantLong RX7 142 (1000)) (List.mem_of_getElem? (i := 4) rfl)) dX7_ticks_299 ?_
    refine ca_Sl hh hl.1 (c_X7_floor Γ l ((((mPar μ) 2).toInt64) * (v3 + (u_262 642))) 1000 (by first | assumption | omega | decide)) (va_cwS 2 hts gX7_ticks_X7_floor rfl rfl rfl (by decide +kernel) ⟨(Nat.le_of_ble_eq_true rfl), (Nat.le_of_ble_eq_true rfl)⟩) (As := [.long ((((mPar μ) 2).toInt64) * (v3 + (u_262 642))), .long 1000]) (rest := [.long (u_262 644), .ref (a b), .int 644, .ref (a (b + 1))]) rfl dX7_ticks_302 rfl (Nat.le_of_ble_eq_true rfl) hP hD hS ⟨Nat.zero_le _, Nat.zero_le _⟩ (fun H locs hP hS => ?_)
    refine lv_sipush (v := 1000) hx hb dX7_ticks_305 (by decide) ?_
    refine lv_aload_n hx hb dX7_ticks_308 rfl (lv_at hl 1 rfl) ?_
    refine va_get (D := gD Γ) (cl := vwCl) (tys := gTy Γ) (ci := 7) (v := .ref (a (b + 4))) (C := RX7) (T := TX7) (N := 18) hx hb hts iX7_ticks_7 hown hK hP 0 rfl rfl 4 (Nat.le_of_ble_eq_true rfl) (hts (.fieldLink RX7 19 "DeadTimeLoopModel" "par" "[I") (List.mem_of_getElem? (i := 2) rfl)) (fun _ h9 => h9) rfl dX7_ticks_309 ?_
    refine lv_iconst (v := 3) hx hb dX7_ticks_312 (by decide) ?_
    refine ka_iald (D := gD Γ) (cl := vwCl) (tys := gTy Γ) hx hb hK hP 4 0 rfl rfl 3 (by decide) (by decide) (by decide) (v := ((mPar μ) 3)) rfl dX7_ticks_313 ?_
    refine lv_isub hx hb dX7_ticks_314 ?_
    refine ca_Vla hh hl.1 (c_X7_steps Γ l a b (u_262, (mAside μ), (mKept μ), (mKm μ), (mPar μ), (mParA μ), (mBef μ), (mUm μ), (mLow μ), (mHigh μ), (mNames μ), (mLen μ), (mText μ), (mPath μ), (mIdeal μ), (mSpot μ), (mWhich μ), (mNum μ)) (u_262 644) (mFloor ((((mPar μ) 2).toInt64) * (v3 + (u_262 642))) 1000) (1000 - ((mPar μ) 3))) (cwV 3 hts gX7_ticks_X7_steps rfl rfl rfl (by decide +kernel) ⟨(Nat.le_of_ble_eq_true rfl), (Nat.le_of_ble_eq_true rfl)⟩) (As := [.long (u_262 644), .long (mFloor ((((mPar μ) 2).toInt64) * (v3 + (u_262 642))) 1000), .int (1000 - ((mPar μ) 3))]) (rest := [.int 644, .ref (a (b + 1))]) rfl dX7_ticks_315 rfl (Nat.le_of_ble_eq_true rfl) hP hD hS (q0 := 0) (ci := 7) rfl rfl rfl (wf := modW Γ a b (u_262, (mAside μ), (mKept μ), (mKm μ), (mPar μ), (mParA μ), (mBef μ), (mUm μ), (mLow μ), (mHigh μ), (mNames μ), (mLen μ), (mText μ), (mPath μ), (mIdeal μ), (mSpot μ), (mWhich μ), (mNum μ))) rfl ⟨Nat.zero_le _, Nat.zero_le _⟩ (fun H locs hP hD hS => ?_)
    refine ka_last (D := gD Γ) (cl := vwCl) (tys := gTy Γ) hx hb hK hP hD hS 1 1 rfl rfl 644 (by decide) (by decide) (by decide) (wf := modW Γ a b ((vp_updL u_262 644 (mSteps (u_262 644) (mFloor ((((mPar μ) 2).toInt64) * (v3 + (u_262 642))) 1000) (1000 - ((mPar μ) 3)))), (mAside μ), (mKept μ), (mKm μ), (mPar μ), (mParA μ), (mBef μ), (mUm μ), (mLow μ), (mHigh μ), (mNames μ), (mLen μ), (mText μ), (mPath μ), (mIdeal μ), (mSpot μ), (mWhich μ), (mNum μ))) rfl dX7_ticks_318 (fun H locs hP hD hS => ?_)
    refine lv_aload_n hx hb dX7_ticks_319 rfl (lv_at hl 1 rfl) ?_
    refine va_get (D := gD Γ) (cl := vwCl) (tys := gTy Γ) (ci := 7) (v := .ref (a (b + 1))) (C := RX7) (T := TX7) (N := 18) hx hb hts iX7_ticks_7 hown hK hP 0 rfl rfl 0 (Nat.le_of_ble_eq_true rfl) (hts (.fieldLink RX7 7 "DeadTimeLoopModel" "now" "[J") (List.mem_of_getElem? (i := 1) rfl)) (fun _ h9 => h9) rfl dX7_ticks_320 ?_
    refine lv_sipush (v := 645) hx hb dX7_ticks_323 (by decide) ?_
    refine lv_aload_n hx hb dX7_ticks_326 rfl (lv_at hl 1 rfl) ?_
    refine lv_aload_n hx hb dX7_ticks_327 rfl (lv_at hl 1 rfl) ?_
    refine va_get (D := gD Γ) (cl := vwCl) (tys := gTy Γ) (ci := 7) (v := .ref (a (b + 1))) (C := RX7) (T := TX7) (N := 18) hx hb hts iX7_ticks_7 hown hK hP 0 rfl rfl 0 (Nat.le_of_ble_eq_true rfl) (hts (.fieldLink RX7 7 "DeadTimeLoopModel" "now" "[J") (List.mem_of_getElem? (i := 1) rfl)) (fun _ h9 => h9) rfl dX7_ticks_328 ?_
    refine lv_sipush (v := 645) hx hb dX7_ticks_331 (by decide) ?_
    refine ka_lald (D := gD Γ) (cl := vwCl) (tys := gTy Γ) hx hb hK hP 1 1 rfl rfl 645 (by decide) (by decide) (by decide) (v := (u_262 645)) rfl dX7_ticks_334 ?_
    refine lv_aload_n hx hb dX7_ticks_335 rfl (lv_at hl 1 rfl) ?_
    refine va_get (D := gD Γ) (cl := vwCl) (tys := gTy Γ) (ci := 7) (v := .ref (a (b + 4))) (C := RX7) (T := TX7) (N := 18) hx hb hts iX7_ticks_7 hown hK hP 0 rfl rfl 4 (Nat.le_of_ble_eq_true rfl) (hts (.fieldLink RX7 19 "DeadTimeLoopModel" "par" "[I") (List.mem_of_getElem? (i := 2) rfl)) (fun _ h9 => h9) rfl dX7_ticks_336 ?_
    refine lv_iconst (v := 5) hx hb dX7_ticks_339 (by decide) ?_
    refine ka_iald (D := gD Γ) (cl := vwCl) (tys := gTy Γ) hx hb hK hP 4 0 rfl rfl 5 (by decide) (by decide) (by decide) (v := ((mPar μ) 5)) rfl dX7_ticks_340 ?_
    refine lv_i2l (v := ((mPar μ) 5).toInt64) hx hb dX7_ticks_341 rfl ?_
    refine lv_aload_n hx hb dX7_ticks_342 rfl (lv_at hl 1 rfl) ?_
    refine va_get (D := gD Γ) (cl := vwCl) (tys := gTy Γ) (ci := 7) (v := .ref (a (b + 1))) (C := RX7) (T := TX7) (N := 18) hx hb hts iX7_ticks_7 hown hK hP 0 rfl rfl 0 (Nat.le_of_ble_eq_true rfl) (hts (.fieldLink RX7 7 "DeadTimeLoopModel" "now" "[J") (List.mem_of_getElem? (i := 1) rfl)) (fun _ h9 => h9) rfl dX7_ticks_343 ?_
    refine lv_sipush (v := 651) hx hb dX7_ticks_346 (by decide) ?_
    refine ka_lald (D := gD Γ) (cl := vwCl) (tys := gTy Γ) hx hb hK hP 1 1 rfl rfl 651 (by decide) (by decide) (by decide) (v := (u_262 651)) rfl dX7_ticks_349 ?_
    refine lv_lmul hx hb dX7_ticks_350 ?_
    refine lv_ldc2 hx hb hown (hts (.constantLong RX7 142 (1000)) (List.mem_of_getElem? (i := 4) rfl)) dX7_ticks_351 ?_
    refine ca_Sl hh hl.1 (c_X7_floor Γ l ((((mPar μ) 5).toInt64) * (u_262 651)) 1000 (by first | assumption | omega | decide)) (va_cwS 2 hts gX7_ticks_X7_floor rfl rfl rfl (by decide +kernel) ⟨(Nat.le_of_ble_eq_true rfl), (Nat.le_of_ble_eq_true rfl)⟩) (As := [.long ((((mPar μ) 5).toInt64) * (u_262 651)), .long 1000]) (rest := [.long (u_262 645), .ref (a b), .int 645, .ref (a (b + 1))]) rfl dX7_ticks_354 rfl (Nat.le_of_ble_eq_true rfl) hP hD hS ⟨Nat.zero_le _, Nat.zero_le _⟩ (fun H locs hP hS => ?_)
    refine lv_sipush (v := 1000) hx hb dX7_ticks_357 (by decide) ?_
    refine lv_aload_n hx hb dX7_ticks_360 rfl (lv_at hl 1 rfl) ?_
    refine va_get (D := gD Γ) (cl := vwCl) (tys := gTy Γ) (ci := 7) (v := .ref (a (b + 4))) (C := RX7) (T := TX7) (N := 18) hx hb hts iX7_ticks_7 hown hK hP 0 rfl rfl 4 (Nat.le_of_ble_eq_true rfl) (hts (.fieldLink RX7 19 "DeadTimeLoopModel" "par" "[I") (List.mem_of_getElem? (i := 2) rfl)) (fun _ h9 => h9) rfl dX7_ticks_361 ?_
    refine lv_bipush (v := 6) hx hb dX7_ticks_364 (by decide) ?_
    refine ka_iald (D := gD Γ) (cl := vwCl) (tys := gTy Γ) hx hb hK hP 4 0 rfl rfl 6 (by decide) (by decide) (by decide) (v := ((mPar μ) 6)) rfl dX7_ticks_366 ?_
    refine lv_isub hx hb dX7_ticks_367 ?_
    refine ca_Vla hh hl.1 (c_X7_steps Γ l a b ((vp_updL u_262 644 (mSteps (u_262 644) (mFloor ((((mPar μ) 2).toInt64) * (v3 + (u_262 642))) 1000) (1000 - ((mPar μ) 3)))), (mAside μ), (mKept μ), (mKm μ), (mPar μ), (mParA μ), (mBef μ), (mUm μ), (mLow μ), (mHigh μ), (mNames μ), (mLen μ), (mText μ), (mPath μ), (mIdeal μ), (mSpot μ), (mWhich μ), (mNum μ)) (u_262 645) (mFloor ((((mPar μ) 5).toInt64) * (u_262 651)) 1000) (1000 - ((mPar μ) 6))) (cwV 3 hts gX7_ticks_X7_steps rfl rfl rfl (by decide +kernel) ⟨(Nat.le_of_ble_eq_true rfl), (Nat.le_of_ble_eq_true rfl)⟩) (As := [.long (u_262 645), .long (mFloor ((((mPar μ) 5).toInt64) * (u_262 651)) 1000), .int (1000 - ((mPar μ) 6))]) (rest := [.int 645, .ref (a (b + 1))]) rfl dX7_ticks_368 rfl (Nat.le_of_ble_eq_true rfl) hP hD hS (q0 := 0) (ci := 7) rfl rfl rfl (wf := modW Γ a b ((vp_updL u_262 644 (mSteps (u_262 644) (mFloor ((((mPar μ) 2).toInt64) * (v3 + (u_262 642))) 1000) (1000 - ((mPar μ) 3)))), (mAside μ), (mKept μ), (mKm μ), (mPar μ), (mParA μ), (mBef μ), (mUm μ), (mLow μ), (mHigh μ), (mNames μ), (mLen μ), (mText μ), (mPath μ), (mIdeal μ), (mSpot μ), (mWhich μ), (mNum μ))) rfl ⟨Nat.zero_le _, Nat.zero_le _⟩ (fun H locs hP hD hS => ?_)
    refine ka_last (D := gD Γ) (cl := vwCl) (tys := gTy Γ) hx hb hK hP hD hS 1 1 rfl rfl 645 (by decide) (by decide) (by decide) (wf := modW Γ a b ((vp_updL (vp_updL u_262 644 (mSteps (u_262 644) (mFloor ((((mPar μ) 2).toInt64) * (v3 + (u_262 642))) 1000) (1000 - ((mPar μ) 3)))) 645 (mSteps (u_262 645) (mFloor ((((mPar μ) 5).toInt64) * (u_262 651)) 1000) (1000 - ((mPar μ) 6)))), (mAside μ), (mKept μ), (mKm μ), (mPar μ), (mParA μ), (mBef μ), (mUm μ), (mLow μ), (mHigh μ), (mNames μ), (mLen μ), (mText μ), (mPath μ), (mIdeal μ), (mSpot μ), (mWhich μ), (mNum μ))) rfl dX7_ticks_371 (fun H locs hP hD hS => ?_)
    refine lv_aload_n hx hb dX7_ticks_372 rfl (lv_at hl 1 rfl) ?_
    refine va_get (D := gD Γ) (cl := vwCl) (tys := gTy Γ) (ci := 7) (v := .ref (a (b + 1))) (C := RX7) (T := TX7) (N := 18) hx hb hts iX7_ticks_7 hown hK hP 0 rfl rfl 0 (Nat.le_of_ble_eq_true rfl) (hts (.fieldLink RX7 7 "DeadTimeLoopModel" "now" "[J") (List.mem_of_getElem? (i := 1) rfl)) (fun _ h9 => h9) rfl dX7_ticks_373 ?_
    refine lv_sipush (v := 640) hx hb dX7_ticks_376 (by decide) ?_
    refine lv_dup2_11 hx hb dX7_ticks_379 rfl rfl ?_
    refine ka_lald (D := gD Γ) (cl := vwCl) (tys := gTy Γ) hx hb hK hP 1 1 rfl rfl 640 (by decide) (by decide) (by decide) (v := (u_262 640)) rfl dX7_ticks_380 ?_
    refine lv_lconst (v := 1) hx hb dX7_ticks_381 (by decide) ?_
    refine lv_ladd hx hb dX7_ticks_382 ?_
    refine ka_last (D := gD Γ) (cl := vwCl) (tys := gTy Γ) hx hb hK hP hD hS 1 1 rfl rfl 640 (by decide) (by decide) (by decide) (wf := modW Γ a b ((vp_updL (vp_updL (vp_updL u_262 644 (mSteps (u_262 644) (mFloor ((((mPar μ) 2).toInt64) * (v3 + (u_262 642))) 1000) (1000 - ((mPar μ) 3)))) 645 (mSteps (u_262 645) (mFloor ((((mPar μ) 5).toInt64) * (u_262 651)) 1000) (1000 - ((mPar μ) 6)))) 640 ((u_262 640) + 1)), (mAside μ), (mKept μ), (mKm μ), (mPar μ), (mParA μ), (mBef μ), (mUm μ), (mLow μ), (mHigh μ), (mNames μ), (mLen μ), (mText μ), (mPath μ), (mIdeal μ), (mSpot μ), (mWhich μ), (mNum μ))) rfl dX7_ticks_383 (fun H locs hP hD hS => ?_)
    exact re_v hQ ha hx hb hr hlk hAe hP hS dX7_ticks_384 (by simp only [mTick, mTk1, mTk2, mTk3, mTkA, mTkB, mTkC, mTkD, mTkE, mTkE0, mTkE1, mTkE2, mTkE3, mTkE4, mTkE5, mTkE6, mTkF, mPut_now, ← eu_31, ← eu_45, ← eu_120, ← eu_124, ← eu_137, ← e3, ← eu_173, ← eu_186, ← eu_199, ← eu_212, ← eu_226, ← eu_240, ← eu_254, ← eu_258, ← eu_262, if_true, if_false, i32_10])
  refine lv_aload_n hx hb dX7_ticks_140 rfl (lv_at hl 1 rfl) ?_
  refine lv_iconst (v := 2) hx hb dX7_ticks_141 (by decide) ?_
  refine lv_aload_n hx hb dX7_ticks_142 rfl (lv_at hl 1 rfl) ?_
  refine va_get (D := gD Γ) (cl := vwCl) (tys := gTy Γ) (ci := 7) (v := .int (mIdeal μ)) (C := RX7) (T := TX7) (N := 18) hx hb hts iX7_ticks_7 hown hK hP 0 rfl rfl 14 (Nat.le_of_ble_eq_true rfl) (hts (.fieldLink RX7 156 "DeadTimeLoopModel" "isIdeal" "Z") (List.mem_of_getElem? (i := 3) rfl)) (fun _ h9 => h9) rfl dX7_ticks_143 ?_
  refine lv_if_eq (tgt := 153) hx hb dX7_ticks_146 (by decide) (fun c_146 => ?_) (fun c_146 => ?_)
  · -- yes
    refine lv_aload_n hx hb dX7_ticks_153 rfl (lv_at hl 1 rfl) ?_
    refine va_get (D := gD Γ) (cl := vwCl) (tys := gTy Γ) (ci := 7) (v := .ref (a (b + 4))) (C := RX7) (T := TX7) (N := 18) hx hb hts iX7_ticks_7 hown hK hP 0 rfl rfl 4 (Nat.le_of_ble_eq_true rfl) (hts (.fieldLink RX7 19 "DeadTimeLoopModel" "par" "[I") (List.mem_of_getElem? (i := 2) rfl)) (fun _ h9 => h9) rfl dX7_ticks_154 ?_
    refine lv_iconst (v := 4) hx hb dX7_ticks_157 (by decide) ?_
    refine ka_iald (D := gD Γ) (cl := vwCl) (tys := gTy Γ) hx hb hK hP 4 0 rfl rfl 4 (by decide) (by decide) (by decide) (v := ((mPar μ) 4)) rfl dX7_ticks_158 ?_
    refine ca_Vla hh hl.1 (c_X7_delayed Γ l a b (u_137, (mAside μ), (mKept μ), (mKm μ), (mPar μ), (mParA μ), (mBef μ), (mUm μ), (mLow μ), (mHigh μ), (mNames μ), (mLen μ), (mText μ), (mPath μ), (mIdeal μ), (mSpot μ), (mWhich μ), (mNum μ)) 2 ((mPar μ) 4) (vin_lit 2 (by decide) (by decide) rfl)) (cwV 2 hts gX7_ticks_X7_delayed rfl rfl rfl (by decide +kernel) ⟨(Nat.le_of_ble_eq_true rfl), (Nat.le_of_ble_eq_true rfl)⟩) (As := [.int 2, .int ((mPar μ) 4)]) (rest := []) rfl dX7_ticks_159 rfl (Nat.le_of_ble_eq_true rfl) hP hD hS (q0 := 0) (ci := 7) rfl rfl rfl (wf := modW Γ a b (u_137, (mAside μ), (mKept μ), (mKm μ), (mPar μ), (mParA μ), (mBef μ), (mUm μ), (mLow μ), (mHigh μ), (mNames μ), (mLen μ), (mText μ), (mPath μ), (mIdeal μ), (mSpot μ), (mWhich μ), (mNum μ))) rfl ⟨Nat.zero_le _, Nat.zero_le _⟩ (fun H locs hP hD hS => ?_)
    exact hJ_162 _ (by simp only [mDd, c_146, if_true, if_false]) _ _ _ hP hD hS (lv_sub hl [1] rfl)
  · -- no
    refine lv_iconst (v := 0) hx hb dX7_ticks_149 (by decide) ?_
    refine lv_goto (tgt := 159) hx hb dX7_ticks_150 (by decide) ?_
    refine ca_Vla hh hl.1 (c_X7_delayed Γ l a b (u_137, (mAside μ), (mKept μ), (mKm μ), (mPar μ), (mParA μ), (mBef μ), (mUm μ), (mLow μ), (mHigh μ), (mNames μ), (mLen μ), (mText μ), (mPath μ), (mIdeal μ), (mSpot μ), (mWhich μ), (mNum μ)) 2 0 (vin_lit 2 (by decide) (by decide) rfl)) (cwV 2 hts gX7_ticks_X7_delayed rfl rfl rfl (by decide +kernel) ⟨(Nat.le_of_ble_eq_true rfl), (Nat.le_of_ble_eq_true rfl)⟩) (As := [.int 2, .int 0]) (rest := []) rfl dX7_ticks_159 rfl (Nat.le_of_ble_eq_true rfl) hP hD hS (q0 := 0) (ci := 7) rfl rfl rfl (wf := modW Γ a b (u_137, (mAside μ), (mKept μ), (mKm μ), (mPar μ), (mParA μ), (mBef μ), (mUm μ), (mLow μ), (mHigh μ), (mNames μ), (mLen μ), (mText μ), (mPath μ), (mIdeal μ), (mSpot μ), (mWhich μ), (mNum μ))) rfl ⟨Nat.zero_le _, Nat.zero_le _⟩ (fun H locs hP hD hS => ?_)
    exact hJ_162 _ (by simp only [mDd, c_146, if_true, if_false]) _ _ _ hP hD hS (lv_sub hl [1] rfl)
