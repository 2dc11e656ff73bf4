def rm_J9_floorDiv_f86c9 : Room := { frames := 0, cells := 0, slots := 0, locals := 0 }
set_option maxHeartbeats 1000000 in
set_option maxRecDepth 100000 in
theorem c_J9_floorDiv_f86c9 (Γ : gT) (l : Launch) (x : Int64) (y : Int64) (hy : ¬ y = 0) : Cl Γ l yJ9_floorDiv_f86c9 wsJ9_floorDiv_f86c9 rm_J9_floorDiv_f86c9 [.long x, .long y] ([]) (kFdiv x y) ([]) := by
  refine Cl.of (cc := cJ9_floorDiv_f86c9) (own := RJ9) (nL := 6) (ret := (some .long)) (by decide +kernel) rfl rfl (Nat.le_of_ble_eq_true rfl) ?_
  intro p e s m args below meth c A Q H locs ls ha hAe hQ hx hb hml hr hts hown hlk hP hK hD hS hA hG hl
  have hh : Hd Γ p s m args c cJ9_floorDiv_f86c9 RJ9 6 wsJ9_floorDiv_f86c9 A := ⟨⟨hx, hb, hml, hown, hts⟩, hK, hA, hG⟩
  have hl : lv_has ls 6 [(0, .long x), (2, .long y)] := hl
  refine lv_lload_n hx hb dJ9_floorDiv_f86c9_0 rfl (lv_at hl 0 rfl) ?_
  refine lv_lload_n hx hb dJ9_floorDiv_f86c9_1 rfl (lv_at hl 1 rfl) ?_
  refine lv_ldiv hx hb dJ9_floorDiv_f86c9_2 hy ?_
  refine lv_lstore (lv' := [(4, .long (x / y)), (0, .long x), (2, .long y)]) hx hb dJ9_floorDiv_f86c9_3 hl (by decide) rfl (fun ls hl => ?_)
  refine lv_lload_n hx hb dJ9_floorDiv_f86c9_5 rfl (lv_at hl 1 rfl) ?_
  refine lv_lload_n hx hb dJ9_floorDiv_f86c9_6 rfl (lv_at hl 2 rfl) ?_
  refine lv_lxor hx hb dJ9_floorDiv_f86c9_7 ?_
  refine lv_lconst (v := 0) hx hb dJ9_floorDiv_f86c9_8 (by decide) ?_
  refine W.lcmp hx hb dJ9_floorDiv_f86c9_9 ?_
  refine lv_if_ge (tgt := 27) hx hb dJ9_floorDiv_f86c9_10 (by decide) (fun c_10 => ?_) (fun c_10 => ?_)
  · -- yes
    have c_10 := (lg_cmp_ge _ _).mp c_10
    refine lv_lload hx hb dJ9_floorDiv_f86c9_27 (lv_at hl 0 rfl) ?_
    exact re_l hQ ha hx hb hr hlk hAe hP hS dJ9_floorDiv_f86c9_29 (by skip; first | rfl | simp [kFdiv, c_10]) (by skip; first | rfl | simp [kFdiv, c_10])
  · -- no
    have c_10 := mt (lg_cmp_ge _ _).mpr c_10
    refine lv_lload hx hb dJ9_floorDiv_f86c9_13 (lv_at hl 0 rfl) ?_
    refine lv_lload_n hx hb dJ9_floorDiv_f86c9_15 rfl (lv_at hl 2 rfl) ?_
    refine lv_lmul hx hb dJ9_floorDiv_f86c9_16 ?_
    refine lv_lload_n hx hb dJ9_floorDiv_f86c9_17 rfl (lv_at hl 1 rfl) ?_
    refine W.lcmp hx hb dJ9_floorDiv_f86c9_18 ?_
    refine lv_if_eq (tgt := 27) hx hb dJ9_floorDiv_f86c9_19 (by decide) (fun c_19 => ?_) (fun c_19 => ?_)
    · -- yes
      have c_19 := (lg_cmp_eq _ _).mp c_19
      refine lv_lload hx hb dJ9_floorDiv_f86c9_27 (lv_at hl 0 rfl) ?_
      exact re_l hQ ha hx hb hr hlk hAe hP hS dJ9_floorDiv_f86c9_29 (by skip; first | rfl | simp [kFdiv, c_10, c_19]) (by skip; first | rfl | simp [kFdiv, c_10, c_19])
    · -- no
      have c_19 := mt (lg_cmp_eq _ _).mpr c_19
      refine lv_lload hx hb dJ9_floorDiv_f86c9_22 (lv_at hl 0 rfl) ?_
      refine lv_lconst (v := 1) hx hb dJ9_floorDiv_f86c9_24 (by decide) ?_
      refine lv_lsub hx hb dJ9_floorDiv_f86c9_25 ?_
      exact re_l hQ ha hx hb hr hlk hAe hP hS dJ9_floorDiv_f86c9_26 (by skip; first | rfl | simp [kFdiv, c_10, c_19]) (by skip; first | rfl | simp [kFdiv, c_10, c_19])
def rm_J9_floorMod_7cf53 : Room := { frames := 0, cells := 0, slots := 0, locals := 0 }
set_option maxHeartbeats 1000000 in
set_option maxRecDepth 100000 in
theorem c_J9_floorMod_7cf53 (Γ : gT) (l : Launch) (x : Int32) (y : Int32) (hy : ¬ y = 0) : Ci Γ l yJ9_floorMod_7cf53 wsJ9_floorMod_7cf53 rm_J9_floorMod_7cf53 [.int x, .int y] ([]) (kFmod x y) ([]) := by
  refine Ci.of (cc := cJ9_floorMod_7cf53) (own := RJ9) (nL := 3) (ret := (some .int)) (by decide +kernel) rfl rfl (Nat.le_of_ble_eq_true rfl) ?_
  intro p e s m args below meth c A Q H locs ls ha hAe hQ hx hb hml hr hts hown hlk hP hK hD hS hA hG hl
  have hh : Hd Γ p s m args c cJ9_floorMod_7cf53 RJ9 3 wsJ9_floorMod_7cf53 A := ⟨⟨hx, hb, hml, hown, hts⟩, hK, hA, hG⟩
  have hl : lv_has ls 3 [(0, .int x), (1, .int y)] := hl
  refine lv_iload_n hx hb dJ9_floorMod_7cf53_0 rfl (lv_at hl 0 rfl) ?_
  refine lv_iload_n hx hb dJ9_floorMod_7cf53_1 rfl (lv_at hl 1 rfl) ?_
  refine lv_irem hx hb dJ9_floorMod_7cf53_2 hy ?_
  refine lv_istore_n (lv' := [(2, .int (iRem x y)), (0, .int x), (1, .int y)]) hx hb dJ9_floorMod_7cf53_3 rfl hl (by decide) rfl (fun ls hl => ?_)
  refine lv_iload_n hx hb dJ9_floorMod_7cf53_4 rfl (lv_at hl 1 rfl) ?_
  refine lv_iload_n hx hb dJ9_floorMod_7cf53_5 rfl (lv_at hl 2 rfl) ?_
  refine lv_ixor hx hb dJ9_floorMod_7cf53_6 ?_
  refine lv_if_ge (tgt := 18) hx hb dJ9_floorMod_7cf53_7 (by decide) (fun c_7 => ?_) (fun c_7 => ?_)
  · -- yes
    refine lv_iload_n hx hb dJ9_floorMod_7cf53_18 rfl (lv_at hl 0 rfl) ?_
    exact re_i hQ ha hx hb hr hlk hAe hP hS dJ9_floorMod_7cf53_19 (by skip; first | rfl | simp [kFmod, c_7]) (by skip; first | rfl | simp [kFmod, c_7])
  · -- no
    refine lv_iload_n hx hb dJ9_floorMod_7cf53_10 rfl (lv_at hl 0 rfl) ?_
    refine lv_if_eq (tgt := 18) hx hb dJ9_floorMod_7cf53_11 (by decide) (fun c_11 => ?_) (fun c_11 => ?_)
    · -- yes
      refine lv_iload_n hx hb dJ9_floorMod_7cf53_18 rfl (lv_at hl 0 rfl) ?_
      exact re_i hQ ha hx hb hr hlk hAe hP hS dJ9_floorMod_7cf53_19 (by skip; first | rfl | simp [kFmod, c_7, c_11]) (by skip; first | rfl | simp [kFmod, c_7, c_11])
    · -- no
      refine lv_iload_n hx hb dJ9_floorMod_7cf53_14 rfl (lv_at hl 0 rfl) ?_
      refine lv_iload_n hx hb dJ9_floorMod_7cf53_15 rfl (lv_at hl 2 rfl) ?_
      refine lv_iadd hx hb dJ9_floorMod_7cf53_16 ?_
      exact re_i hQ ha hx hb hr hlk hAe hP hS dJ9_floorMod_7cf53_17 (by skip; first | rfl | simp [kFmod, c_7, c_11]) (by skip; first | rfl | simp [kFmod, c_7, c_11])
def rm_X6_isParameter : Room := { frames := 0, cells := 0, slots := 0, locals := 0 }
set_option maxHeartbeats 1000000 in
set_option maxRecDepth 100000 in
theorem c_X6_isParameter (Γ : gT) (l : Launch) (k : Int32)  : Ci Γ l yX6_isParameter wsX6_isParameter rm_X6_isParameter [.int k] ([]) (fPar k) ([]) := by
  refine Ci.of (cc := cX6_isParameter) (own := RX6) (nL := 1) (ret := (some .boolean)) (by decide +kernel) rfl rfl (Nat.le_of_ble_eq_true rfl) ?_
  intro p e s m args below meth c A Q H locs ls ha hAe hQ hx hb hml hr hts hown hlk hP hK hD hS hA hG hl
  have hh : Hd Γ p s m args c cX6_isParameter RX6 1 wsX6_isParameter A := ⟨⟨hx, hb, hml, hown, hts⟩, hK, hA, hG⟩
  have hl : lv_has ls 1 [(0, .int k)] := hl
  refine lv_iload_n hx hb dX6_isParameter_0 rfl (lv_at hl 0 rfl) ?_
  refine lv_if_lt (tgt := 14) hx hb dX6_isParameter_1 (by decide) (fun c_1 => ?_) (fun c_1 => ?_)
  · -- yes
    refine lv_iconst (v := 0) hx hb dX6_isParameter_14 (by decide) ?_
    exact re_z hQ ha hx hb hr hlk hAe hP hS dX6_isParameter_15 rfl (by skip; first | rfl | simp [fPar, c_1]) (by skip; first | rfl | simp [fPar, c_1])
  · -- no
    refine lv_iload_n hx hb dX6_isParameter_4 rfl (lv_at hl 0 rfl) ?_
    refine lv_bipush (v := 15) hx hb dX6_isParameter_5 (by decide) ?_
    refine lv_icmp_ge (tgt := 14) hx hb dX6_isParameter_7 (by decide) (fun c_7 => ?_) (fun c_7 => ?_)
    · -- yes
      refine lv_iconst (v := 0) hx hb dX6_isParameter_14 (by decide) ?_
      exact re_z hQ ha hx hb hr hlk hAe hP hS dX6_isParameter_15 rfl (by skip; first | rfl | simp [fPar, c_1, c_7]) (by skip; first | rfl | simp [fPar, c_1, c_7])
    · -- no
      refine lv_iconst (v := 1) hx hb dX6_isParameter_10 (by decide) ?_
      refine lv_goto (tgt := 15) hx hb dX6_isParameter_11 (by decide) ?_
      exact re_z hQ ha hx hb hr hlk hAe hP hS dX6_isParameter_15 rfl (by skip; first | rfl | simp [fPar, c_1, c_7]) (by skip; first | rfl | simp [fPar, c_1, c_7])
def rm_X6_isSignal : Room := { frames := 0, cells := 0, slots := 0, locals := 0 }
set_option maxHeartbeats 1000000 in
set_option maxRecDepth 100000 in
theorem c_X6_isSignal (Γ : gT) (l : Launch) (k : Int32)  : Ci Γ l yX6_isSignal wsX6_isSignal rm_X6_isSignal [.int k] ([]) (fSig k) ([]) := by
  refine Ci.of (cc := cX6_isSignal) (own := RX6) (nL := 1) (ret := (some .boolean)) (by decide +kernel) rfl rfl (Nat.le_of_ble_eq_true rfl) ?_
  intro p e s m args below meth c A Q H locs ls ha hAe hQ hx hb hml hr hts hown hlk hP hK hD hS hA hG hl
  have hh : Hd Γ p s m args c cX6_isSignal RX6 1 wsX6_isSignal A := ⟨⟨hx, hb, hml, hown, hts⟩, hK, hA, hG⟩
  have hl : lv_has ls 1 [(0, .int k)] := hl
  refine lv_iload_n hx hb dX6_isSignal_0 rfl (lv_at hl 0 rfl) ?_
  refine lv_if_lt (tgt := 14) hx hb dX6_isSignal_1 (by decide) (fun c_1 => ?_) (fun c_1 => ?_)
  · -- yes
    refine lv_iconst (v := 0) hx hb dX6_isSignal_14 (by decide) ?_
    exact re_z hQ ha hx hb hr hlk hAe hP hS dX6_isSignal_15 rfl (by skip; first | rfl | simp [fSig, c_1]) (by skip; first | rfl | simp [fSig, c_1])
  · -- no
    refine lv_iload_n hx hb dX6_isSignal_4 rfl (lv_at hl 0 rfl) ?_
    refine lv_bipush (v := 10) hx hb dX6_isSignal_5 (by decide) ?_
    refine lv_icmp_ge (tgt := 14) hx hb dX6_isSignal_7 (by decide) (fun c_7 => ?_) (fun c_7 => ?_)
    · -- yes
      refine lv_iconst (v := 0) hx hb dX6_isSignal_14 (by decide) ?_
      exact re_z hQ ha hx hb hr hlk hAe hP hS dX6_isSignal_15 rfl (by skip; first | rfl | simp [fSig, c_1, c_7]) (by skip; first | rfl | simp [fSig, c_1, c_7])
    · -- no
      refine lv_iconst (v := 1) hx hb dX6_isSignal_10 (by decide) ?_
      refine lv_goto (tgt := 15) hx hb dX6_isSignal_11 (by decide) ?_
      exact re_z hQ ha hx hb hr hlk hAe hP hS dX6_isSignal_15 rfl (by skip; first | rfl | simp [fSig, c_1, c_7]) (by skip; first | rfl | simp [fSig, c_1, c_7])
def rm_X6_isLevel : Room := { frames := 0, cells := 0, slots := 0, locals := 0 }
set_option maxHeartbeats 1000000 in
set_option maxRecDepth 100000 in
theorem c_X6_isLevel (Γ : gT) (l : Launch) (v : Int32)  : Ci Γ l yX6_isLevel wsX6_isLevel rm_X6_isLevel [.int v] ([]) (fLev v) ([]) := by
  refine Ci.of (cc := cX6_isLevel) (own := RX6) (nL := 1) (ret := (some .boolean)) (by decide +kernel) rfl rfl (Nat.le_of_ble_eq_true rfl) ?_
  intro p e s m args below meth c A Q H locs ls ha hAe hQ hx hb hml hr hts hown hlk hP hK hD hS hA hG hl
  have hh : Hd Γ p s m args c cX6_isLevel RX6 1 wsX6_isLevel A := ⟨⟨hx, hb, hml, hown, hts⟩, hK, hA, hG⟩
  have hl : lv_has ls 1 [(0, .int v)] := hl
  refine lv_iload_n hx hb dX6_isLevel_0 rfl (lv_at hl 0 rfl) ?_
  refine lv_ldc hx hb hown (hts (.constant RX6 243 (-100000)) (List.mem_of_getElem? (i := 1) rfl)) dX6_isLevel_1 ?_
  refine lv_icmp_lt (tgt := 16) hx hb dX6_isLevel_3 (by decide) (fun c_3 => ?_) (fun c_3 => ?_)
  · -- yes
    refine lv_iconst (v := 0) hx hb dX6_isLevel_16 (by decide) ?_
    exact re_z hQ ha hx hb hr hlk hAe hP hS dX6_isLevel_17 rfl (by skip; first | rfl | simp [fLev, c_3]) (by skip; first | rfl | simp [fLev, c_3])
  · -- no
    refine lv_iload_n hx hb dX6_isLevel_6 rfl (lv_at hl 0 rfl) ?_
    refine lv_ldc hx hb hown (hts (.constant RX6 134 (100000)) (List.mem_of_getElem? (i := 2) rfl)) dX6_isLevel_7 ?_
    refine lv_icmp_gt (tgt := 16) hx hb dX6_isLevel_9 (by decide) (fun c_9 => ?_) (fun c_9 => ?_)
    · -- yes
      refine lv_iconst (v := 0) hx hb dX6_isLevel_16 (by decide) ?_
      exact re_z hQ ha hx hb hr hlk hAe hP hS dX6_isLevel_17 rfl (by skip; first | rfl | simp [fLev, c_3, c_9]) (by skip; first | rfl | simp [fLev, c_3, c_9])
    · -- no
      refine lv_iconst (v := 1) hx hb dX6_isLevel_12 (by decide) ?_
      refine lv_goto (tgt := 17) hx hb dX6_isLevel_13 (by decide) ?_
      exact re_z hQ ha hx hb hr hlk hAe hP hS dX6_isLevel_17 rfl (by skip; first | rfl | simp [fLev, c_3, c_9]) (by skip; first | rfl | simp [fLev, c_3, c_9])
def rm_X6_thousandth : Room := { frames := 1, cells := 0, slots := 0, locals := 25 }
set_option maxHeartbeats 1000000 in
set_option maxRecDepth 100000 in
theorem c_X6_thousandth (Γ : gT) (l : Launch) (x : Int64)  : Cl Γ l yX6_thousandth wsX6_thousandth rm_X6_thousandth [.long x] ([]) (fThou x) ([]) := by
  refine Cl.of (cc := cX6_thousandth) (own := RX6) (nL := 2) (ret := (some .long)) (by decide +kernel) rfl rfl (Nat.le_of_ble_eq_true rfl) ?_
  intro p e s m args below meth c A Q H locs ls ha hAe hQ hx hb hml hr hts hown hlk hP hK hD hS hA hG hl
  have hh : Hd Γ p s m args c cX6_thousandth RX6 2 wsX6_thousandth A := ⟨⟨hx, hb, hml, hown, hts⟩, hK, hA, hG⟩
  have hl : lv_has ls 2 [(0, .long x)] := hl
  refine lv_lload_n hx hb dX6_thousandth_0 rfl (lv_at hl 0 rfl) ?_
  refine lv_ldc2 hx hb hown (hts (.constantLong RX6 280 (1000)) (List.mem_of_getElem? (i := 1) rfl)) dX6_thousandth_1 ?_
  refine ca_Sl hh hl.1 (c_J9_floorDiv_f86c9 Γ l x 1000 (by first | assumption | omega | decide)) (va_cwS 2 hts gX6_thousandth_J9_floorDiv_f86c9 rfl rfl rfl (by decide +kernel) ⟨(Nat.le_of_ble_eq_true rfl), (Nat.le_of_ble_eq_true rfl)⟩) (As := [.long x, .long 1000]) (rest := []) rfl dX6_thousandth_4 rfl (Nat.le_of_ble_eq_true rfl) hP hD hS ⟨Nat.zero_le _, Nat.zero_le _⟩ (fun H locs hP hS => ?_)
  exact re_l hQ ha hx hb hr hlk hAe hP hS dX6_thousandth_7 (by skip; first | rfl | simp [fThou]) (by skip; first | rfl | simp [fThou])
def rm_X6_stepped : Room := { frames := 2, cells := 0, slots := 0, locals := 46 }
set_option maxHeartbeats 1000000 in
set_option maxRecDepth 100000 in
theorem c_X6_stepped (Γ : gT) (l : Launch) (s1 : Int64) (g : Int64) (w : Int64)  : Ci Γ l yX6_stepped wsX6_stepped rm_X6_stepped [.long s1, .long g, .long w] ([]) (fStep s1 g w) ([]) := by
  refine Ci.of (cc := cX6_stepped) (own := RX6) (nL := 6) (ret := (some .int)) (by decide +kernel) rfl rfl (Nat.le_of_ble_eq_true rfl) ?_
  intro p e s m args below meth c A Q H locs ls ha hAe hQ hx hb hml hr hts hown hlk hP hK hD hS hA hG hl
  have hh : Hd Γ p s m args c cX6_stepped RX6 6 wsX6_stepped A := ⟨⟨hx, hb, hml, hown, hts⟩, hK, hA, hG⟩
  have hl : lv_has ls 6 [(0, .long s1), (2, .long g), (4, .long w)] := hl
  refine lv_lload_n hx hb dX6_stepped_0 rfl (lv_at hl 0 rfl) ?_
  refine lv_lload hx hb dX6_stepped_1 (lv_at hl 2 rfl) ?_
  refine lv_lload_n hx hb dX6_stepped_3 rfl (lv_at hl 1 rfl) ?_
  refine lv_lload_n hx hb dX6_stepped_4 rfl (lv_at hl 0 rfl) ?_
  refine lv_lsub hx hb dX6_stepped_5 ?_
  refine lv_lmul hx hb dX6_stepped_6 ?_
  refine ca_Sl hh hl.1 (c_X6_thousandth Γ l (w * (g - s1))) (va_cwS 1 hts gX6_stepped_X6_thousandth rfl rfl rfl (by decide +kernel) ⟨(Nat.le_of_ble_eq_true rfl), (Nat.le_of_ble_eq_true rfl)⟩) (As := [.long (w * (g - s1))]) (rest := [.long s1]) rfl dX6_stepped_7 rfl (Nat.le_of_ble_eq_true rfl) hP hD hS ⟨Nat.zero_le _, Nat.zero_le _⟩ (fun H locs hP hS => ?_)
  refine lv_ladd hx hb dX6_stepped_10 ?_
  refine lv_l2i (v := (s1 + (fThou (w * (g - s1)))).toInt32) hx hb dX6_stepped_11 rfl ?_
  exact re_i hQ ha hx hb hr hlk hAe hP hS dX6_stepped_12 (by skip; first | rfl | simp [fStep]) (by skip; first | rfl | simp [fStep])
def rm_X6_limited : Room := { frames := 1, cells := 0, slots := 0, locals := 24 }
set_option maxHeartbeats 1000000 in
set_option maxRecDepth 100000 in
theorem c_X6_limited (Γ : gT) (l : Launch) (v : Int64) (lo : Int64) (hi : Int64)  : Cl Γ l yX6_limited wsX6_limited rm_X6_limited [.long v, .long lo, .long hi] ([]) (fLim v lo hi) ([]) := by
  refine Cl.of (cc := cX6_limited) (own := RX6) (nL := 6) (ret := (some .long)) (by decide +kernel) rfl rfl (Nat.le_of_ble_eq_true rfl) ?_
  intro p e s m args below meth c A Q H locs ls ha hAe hQ hx hb hml hr hts hown hlk hP hK hD hS hA hG hl
  have hh : Hd Γ p s m args c cX6_limited RX6 6 wsX6_limited A := ⟨⟨hx, hb, hml, hown, hts⟩, hK, hA, hG⟩
  have hl : lv_has ls 6 [(0, .long v), (2, .long lo), (4, .long hi)] := hl
  refine lv_lload_n hx hb dX6_limited_0 rfl (lv_at hl 0 rfl) ?_
  refine lv_lload_n hx hb dX6_limited_1 rfl (lv_at hl 1 rfl) ?_
  refine va_mmax_long hx hb (hml.trans hl.1.symm) hown (hts (.methodLink RX6 290 Lib.MathLoose.max_long.x) (List.mem_of_getElem? (i := 1) rfl)) (hts (.static Lib.MathLoose.max_long.x) (List.mem_of_getElem? (i := 2) rfl)) (hts (.initialized "java/lang/Math") (List.mem_of_getElem? (i := 3) rfl)) (hts (.code Lib.MathLoose.max_long.x Lib.MathLoose.max_long.code 4 (some .long)) (List.mem_of_getElem? (i := 4) rfl)) (Nat.le_of_ble_eq_true rfl) (Nat.le_of_ble_eq_true rfl) (Nat.le_of_ble_eq_true rfl) (Nat.le_of_ble_eq_true rfl) dX6_limited_2 ?_
  refine W.eq (g2 := F0 m 5 ls [.long (kMaxL v lo)]) rfl ?_
  refine lv_lload hx hb dX6_limited_5 (lv_at hl 2 rfl) ?_
  refine va_mmin_long hx hb (hml.trans hl.1.symm) hown (hts (.methodLink RX6 292 Lib.MathLoose.min_long.x) (List.mem_of_getElem? (i := 5) rfl)) (hts (.static Lib.MathLoose.min_long.x) (List.mem_of_getElem? (i := 6) rfl)) (hts (.initialized "java/lang/Math") (List.mem_of_getElem? (i := 3) rfl)) (hts (.code Lib.MathLoose.min_long.x Lib.MathLoose.min_long.code 4 (some .long)) (List.mem_of_getElem? (i := 7) rfl)) (Nat.le_of_ble_eq_true rfl) (Nat.le_of_ble_eq_true rfl) (Nat.le_of_ble_eq_true rfl) (Nat.le_of_ble_eq_true rfl) dX6_limited_7 ?_
  refine W.eq (g2 := F0 m 10 ls [.long (kMinL (kMaxL v lo) hi)]) rfl ?_
  exact re_l hQ ha hx hb hr hlk hAe hP hS dX6_limited_10 (by skip; first | rfl | simp [fLim]) (by skip; first | rfl | simp [fLim])
def rm_X3_get : Room := { frames := 1, cells := 0, slots := 0, locals := 20 }
theorem iX3_get_3 : ∀ w ∈ u_ws RX3 TX3 1, w ∈ wsX3_get := fun w h => (List.mem_cons_of_mem _ (List.mem_append_right _ h))
set_option maxHeartbeats 1000000 in
set_option maxRecDepth 100000 in
theorem c_X3_get (Γ : gT) (l : Launch) (a : Nat → Nat) (b : Nat) (v : Sett) (k : Int32)  : Ci Γ l yX3_get wsX3_get rm_X3_get [.ref (a b), .int k] (setW Γ a b v) (fGet v k) (setW Γ a b v) := by
  refine Ci.of (cc := cX3_get) (own := RX3) (nL := 2) (ret := (some .int)) (by decide +kernel) rfl rfl (Nat.le_of_ble_eq_true rfl) ?_
  intro p e s m args below meth c A Q H locs ls ha hAe hQ hx hb hml hr hts hown hlk hP hK hD hS hA hG hl
  have hh : Hd Γ p s m args c cX3_get RX3 2 wsX3_get A := ⟨⟨hx, hb, hml, hown, hts⟩, hK, hA, hG⟩
  have hl : lv_has ls 2 [(0, .ref (a b)), (1, .int k)] := hl
  refine lv_iload_n hx hb dX3_get_0 rfl (lv_at hl 1 rfl) ?_
  refine ca_Ni hh hl.1 (c_X6_isParameter Γ l k) ⟨va_cnB (host := RX6) 1 hts gX3_get_X6_isParameter_n24 rfl rfl rfl hG.1.2.2.1 (hts (.initialized RX6) (List.mem_of_getElem? (i := 3) rfl)) (by decide +kernel) ⟨(Nat.le_of_ble_eq_true rfl), (Nat.le_of_ble_eq_true rfl)⟩, (hts (.static yX6_isParameter) (List.mem_of_getElem? (i := 2) rfl)), trivial⟩ (As := [.int k]) (rest := []) rfl dX3_get_1 rfl (Nat.le_of_ble_eq_true rfl) hP hD hS ⟨Nat.zero_le _, Nat.zero_le _⟩ (fun H locs hP hS => ?_)
  refine lv_if_eq (tgt := 16) hx hb dX3_get_4 (by decide) (fun c_4 => ?_) (fun c_4 => ?_)
  · -- yes
    refine lv_iconst (v := 0) hx hb dX3_get_16 (by decide) ?_
    exact re_i hQ ha hx hb hr hlk hAe hP hS dX3_get_17 (by skip; first | rfl | simp [fGet, c_4]) (by skip; first | rfl | simp [fGet, c_4])
  · -- no
    refine lv_aload_n hx hb dX3_get_7 rfl (lv_at hl 0 rfl) ?_
    refine va_get (D := gD Γ) (cl := vwCl) (tys := gTy Γ) (ci := 3) (v := .ref (a (b + 1))) (C := RX3) (T := TX3) (N := 1) hx hb hts iX3_get_3 hown hK hP 0 rfl rfl 0 (Nat.le_of_ble_eq_true rfl) (hts (.fieldLink RX3 9 "DeadTimeLoop$Settings" "values" "[I") (List.mem_of_getElem? (i := 1) rfl)) (fun _ h9 => h9) rfl dX3_get_8 ?_
    refine lv_iload_n hx hb dX3_get_11 rfl (lv_at hl 1 rfl) ?_
    refine ka_iald (D := gD Γ) (cl := vwCl) (tys := gTy Γ) hx hb hK hP 1 0 rfl rfl (k.toNatClampNeg) (nI_of_in (fPar_in c_4) (by decide)) (in_lt (fPar_in c_4)) (by decide) (v := (v k.toNatClampNeg)) rfl dX3_get_12 ?_
    refine lv_goto (tgt := 17) hx hb dX3_get_13 (by decide) ?_
    exact re_i hQ ha hx hb hr hlk hAe hP hS dX3_get_17 (by skip; first | rfl | simp [fGet, c_4]) (by skip; first | rfl | simp [fGet, c_4])
def rm_X3_set : Room := { frames := 1, cells := 0, slots := 0, locals := 20 }
theorem iX3_set_3 : ∀ w ∈ u_ws RX3 TX3 1, w ∈ wsX3_set := fun w h => (List.mem_cons_of_mem _ (List.mem_append_right _ h))
set_option maxHeartbeats 1000000 in
set_option maxRecDepth 100000 in
theorem c_X3_set (Γ : gT) (l : Launch) (a : Nat → Nat) (b : Nat) (v : Sett) (k : Int32) (x : Int32)  : Cv Γ l yX3_set wsX3_set rm_X3_set [.ref (a b), .int k, .int x] (setW Γ a b v) (setW Γ a b (fSet v k x)) := by
  refine Cv.of (cc := cX3_set) (own := RX3) (nL := 3) (ret := none) (by decide +kernel) rfl rfl (Nat.le_of_ble_eq_true rfl) ?_
  intro p e s m args below meth c A Q H locs ls ha hAe hQ hx hb hml hr hts hown hlk hP hK hD hS hA hG hl
  have hh : Hd Γ p s m args c cX3_set RX3 3 wsX3_set A := ⟨⟨hx, hb, hml, hown, hts⟩, hK, hA, hG⟩
  have hl : lv_has ls 3 [(0, .ref (a b)), (1, .int k), (2, .int x)] := hl
  refine lv_iload_n hx hb dX3_set_0 rfl (lv_at hl 1 rfl) ?_
  refine ca_Ni hh hl.1 (c_X6_isParameter Γ l k) ⟨va_cnB (host := RX6) 1 hts gX3_set_X6_isParameter_n24 rfl rfl rfl hG.1.2.2.1 (hts (.initialized RX6) (List.mem_of_getElem? (i := 3) rfl)) (by decide +kernel) ⟨(Nat.le_of_ble_eq_true rfl), (Nat.le_of_ble_eq_true rfl)⟩, (hts (.static yX6_isParameter) (List.mem_of_getElem? (i := 2) rfl)), trivial⟩ (As := [.int k]) (rest := []) rfl dX3_set_1 rfl (Nat.le_of_ble_eq_true rfl) hP hD hS ⟨Nat.zero_le _, Nat.zero_le _⟩ (fun H locs hP hS => ?_)
  refine lv_if_eq (tgt := 14) hx hb dX3_set_4 (by decide) (fun c_4 => ?_) (fun c_4 => ?_)
  · -- yes
    exact re_v hQ ha hx hb hr hlk hAe hP hS dX3_set_14 (by skip; first | rfl | simp [fSet, c_4])
  · -- no
    refine lv_aload_n hx hb dX3_set_7 rfl (lv_at hl 0 rfl) ?_
    refine va_get (D := gD Γ) (cl := vwCl) (tys := gTy Γ) (ci := 3) (v := .ref (a (b + 1))) (C := RX3) (T := TX3) (N := 1) hx hb hts iX3_set_3 hown hK hP 0 rfl rfl 0 (Nat.le_of_ble_eq_true rfl) (hts (.fieldLink RX3 9 "DeadTimeLoop$Settings" "values" "[I") (List.mem_of_getElem? (i := 1) rfl)) (fun _ h9 => h9) rfl dX3_set_8 ?_
    refine lv_iload_n hx hb dX3_set_11 rfl (lv_at hl 1 rfl) ?_
    refine lv_iload_n hx hb dX3_set_12 rfl (lv_at hl 2 rfl) ?_
    refine ka_iast (D := gD Γ) (cl := vwCl) (tys := gTy Γ) hx hb hK hP hD hS 1 0 rfl rfl (k.toNatClampNeg) (nI_of_in (fPar_in c_4) (by decide)) (in_lt (fPar_in c_4)) (by decide) (wf := setW Γ a b (upd v k.toNatClampNeg x)) rfl dX3_set_13 (fun H locs hP hD hS => ?_)
    exact re_v hQ ha hx hb hr hlk hAe hP hS dX3_set_14 (by skip; first | rfl | simp [fSet, c_4])
def rm_X3_copy : Room := { frames := 1, cells := 0, slots := 0, locals := 28 }
theorem iX3_copy_3 : ∀ w ∈ u_ws RX3 TX3 1, w ∈ wsX3_copy := fun w h => (List.mem_cons_of_mem _ (List.mem_append_right _ h))
set_option maxHeartbeats 1000000 in
set_option maxRecDepth 100000 in
theorem c_X3_copy (Γ : gT) (l : Launch) (a : Nat → Nat) (b : Nat) (a2 : Nat → Nat) (b2 : Nat) (v : Sett) (v2 : Sett)  : Cv Γ l yX3_copy wsX3_copy rm_X3_copy [.ref (a b), .ref (a2 b2)] (setW Γ a b v ++ setW Γ a2 b2 v2) (setW Γ a b (va_cpy v2 v 0 0 15) ++ setW Γ a2 b2 v2) := by
  refine Cv.of (cc := cX3_copy) (own := RX3) (nL := 2) (ret := none) (by decide +kernel) rfl rfl (Nat.le_of_ble_eq_true rfl) ?_
  intro p e s m args below meth c A Q H locs ls ha hAe hQ hx hb hml hr hts hown hlk hP hK hD hS hA hG hl
  have hh : Hd Γ p s m args c cX3_copy RX3 2 wsX3_copy A := ⟨⟨hx, hb, hml, hown, hts⟩, hK, hA, hG⟩
  have hl : lv_has ls 2 [(0, .ref (a b)), (1, .ref (a2 b2))] := hl
  refine lv_aload_n hx hb dX3_copy_0 rfl (lv_at hl 1 rfl) ?_
  refine va_get (D := gD Γ) (cl := vwCl) (tys := gTy Γ) (ci := 3) (v := .ref (a2 (b2 + 1))) (C := RX3) (T := TX3) (N := 1) hx hb hts iX3_copy_3 hown hK hP 2 rfl rfl 0 (Nat.le_of_ble_eq_true rfl) (hts (.fieldLink RX3 9 "DeadTimeLoop$Settings" "values" "[I") (List.mem_of_getElem? (i := 1) rfl)) (fun _ h9 => h9) rfl dX3_copy_1 ?_
  refine lv_iconst (v := 0) hx hb dX3_copy_4 (by decide) ?_
  refine lv_aload_n hx hb dX3_copy_5 rfl (lv_at hl 0 rfl) ?_
  refine va_get (D := gD Γ) (cl := vwCl) (tys := gTy Γ) (ci := 3) (v := .ref (a (b + 1))) (C := RX3) (T := TX3) (N := 1) hx hb hts iX3_copy_3 hown hK hP 0 rfl rfl 0 (Nat.le_of_ble_eq_true rfl) (hts (.fieldLink RX3 9 "DeadTimeLoop$Settings" "values" "[I") (List.mem_of_getElem? (i := 1) rfl)) (fun _ h9 => h9) rfl dX3_copy_6 ?_
  refine lv_iconst (v := 0) hx hb dX3_copy_9 (by decide) ?_
  refine lv_bipush (v := 15) hx hb dX3_copy_10 (by decide) ?_
  refine va_copyi (D := gD Γ) (cl := vwCl) (tys := gTy Γ) (f := v2) (g := v) hx hb (hml.trans hl.1.symm) hown (hts (.methodLink RX3 18 arraycopyName) (List.mem_of_getElem? (i := 2) rfl)) (hts (.native arraycopyName) (List.mem_of_getElem? (i := 3) rfl)) (hts (.static arraycopyName) (List.mem_of_getElem? (i := 4) rfl)) (hts (.initialized "java/lang/System") (List.mem_of_getElem? (i := 5) rfl)) hK hP hD hS 3 1 0 0 rfl rfl rfl rfl rfl (by decide) (by decide) (by decide) (by decide) (by decide) (fun i hi => rfl) (Nat.le_of_ble_eq_true rfl) (Nat.le_of_ble_eq_true rfl) dX3_copy_12 (fun H locs hP hD hS => ?_)
  have hP : va_P (gD Γ) vwCl (setW Γ a b (va_cpy v2 v 0 0 15) ++ setW Γ a2 b2 v2) H := hP
  have hD : va_D A (setW Γ a b (va_cpy v2 v 0 0 15) ++ setW Γ a2 b2 v2) := hD
  exact re_v hQ ha hx hb hr hlk hAe hP hS dX3_copy_15 (by skip; first | rfl | simp [])
def rm_X2_begin : Room := { frames := 0, cells := 0, slots := 0, locals := 0 }
theorem iX2_begin_2 : ∀ w ∈ u_ws RX2 TX2 5, w ∈ wsX2_begin := fun w h => (List.mem_cons_of_mem _ (List.mem_append_right _ h))
set_option maxHeartbeats 1000000 in
set_option maxRecDepth 100000 in
theorem c_X2_begin (Γ : gT) (l : Launch) (a : Nat → Nat) (b : Nat) (x : Sec) (up : Int32) (hup : up = 0 ∨ up = 1) : Cv Γ l yX2_begin wsX2_begin rm_X2_begin [.ref (a b), .int up] (secW Γ a b x) (secW Γ a b (fSecBegin up)) := by
  refine Cv.of (cc := cX2_begin) (own := RX2) (nL := 2) (ret := none) (by decide +kernel) rfl rfl (Nat.le_of_ble_eq_true rfl) ?_
  intro p e s m args below meth c A Q H locs ls ha hAe hQ hx hb hml hr hts hown hlk hP hK hD hS hA hG hl
  have hh : Hd Γ p s m args c cX2_begin RX2 2 wsX2_begin A := ⟨⟨hx, hb, hml, hown, hts⟩, hK, hA, hG⟩
  have hl : lv_has ls 2 [(0, .ref (a b)), (1, .int up)] := hl
  refine lv_aload_n hx hb dX2_begin_0 rfl (lv_at hl 0 rfl) ?_
  refine lv_lconst (v := 0) hx hb dX2_begin_1 (by decide) ?_
  refine va_put (D := gD Γ) (cl := vwCl) (tys := gTy Γ) (ci := 2) (v := .long 0) (ty := tyX2 0) (C := RX2) (T := TX2) (N := 5) hx hb hts iX2_begin_2 tyX2 tyX2_ok nmX2 hown hK hP hD hS 0 rfl rfl 0 (Nat.le_of_ble_eq_true rfl) (hts (.fieldLink RX2 7 "DeadTimeLoop$Section" "errorSum" "J") (List.mem_of_getElem? (i := 1) rfl)) (fun _ h9 => h9) rfl (tyX2_ok 0 (Nat.le_of_ble_eq_true rfl)) rfl rfl (Nat.le_of_ble_eq_true rfl) dX2_begin_2 (fun H locs hP hD hS => ?_)
  have hP : va_P (gD Γ) vwCl (secW Γ a b (0, (sEff x), (sOver x), (sTicks x), (sUp x))) H := hP
  have hD : va_D A (secW Γ a b (0, (sEff x), (sOver x), (sTicks x), (sUp x))) := hD
  refine lv_aload_n hx hb dX2_begin_5 rfl (lv_at hl 0 rfl) ?_
  refine lv_lconst (v := 0) hx hb dX2_begin_6 (by decide) ?_
  refine va_put (D := gD Γ) (cl := vwCl) (tys := gTy Γ) (ci := 2) (v := .long 0) (ty := tyX2 1) (C := RX2) (T := TX2) (N := 5) hx hb hts iX2_begin_2 tyX2 tyX2_ok nmX2 hown hK hP hD hS 0 rfl rfl 1 (Nat.le_of_ble_eq_true rfl) (hts (.fieldLink RX2 13 "DeadTimeLoop$Section" "effort" "J") (List.mem_of_getElem? (i := 2) rfl)) (fun _ h9 => h9) rfl (tyX2_ok 1 (Nat.le_of_ble_eq_true rfl)) rfl rfl (Nat.le_of_ble_eq_true rfl) dX2_begin_7 (fun H locs hP hD hS => ?_)
  have hP : va_P (gD Γ) vwCl (secW Γ a b (0, 0, (sOver x), (sTicks x), (sUp x))) H := hP
  have hD : va_D A (secW Γ a b (0, 0, (sOver x), (sTicks x), (sUp x))) := hD
  refine lv_aload_n hx hb dX2_begin_10 rfl (lv_at hl 0 rfl) ?_
  refine lv_iconst (v := 0) hx hb dX2_begin_11 (by decide) ?_
  refine va_put (D := gD Γ) (cl := vwCl) (tys := gTy Γ) (ci := 2) (v := .int 0) (ty := tyX2 2) (C := RX2) (T := TX2) (N := 5) hx hb hts iX2_begin_2 tyX2 tyX2_ok nmX2 hown hK hP hD hS 0 rfl rfl 2 (Nat.le_of_ble_eq_true rfl) (hts (.fieldLink RX2 16 "DeadTimeLoop$Section" "overshoot" "I") (List.mem_of_getElem? (i := 3) rfl)) (fun _ h9 => h9) rfl (tyX2_ok 2 (Nat.le_of_ble_eq_true rfl)) rfl rfl (Nat.le_of_ble_eq_true rfl) dX2_begin_12 (fun H locs hP hD hS => ?_)
  have hP : va_P (gD Γ) vwCl (secW Γ a b (0, 0, 0, (sTicks x), (sUp x))) H := hP
  have hD : va_D A (secW Γ a b (0, 0, 0, (sTicks x), (sUp x))) := hD
  refine lv_aload_n hx hb dX2_begin_15 rfl (lv_at hl 0 rfl) ?_
  refine lv_iconst (v := 0) hx hb dX2_begin_16 (by decide) ?_
  refine va_put (D := gD Γ) (cl := vwCl) (tys := gTy Γ) (ci := 2) (v := .int 0) (ty := tyX2 3) (C := RX2) (T := TX2) (N := 5) hx hb hts iX2_begin_2 tyX2 tyX2_ok nmX2 hown hK hP hD hS 0 rfl rfl 3 (Nat.le_of_ble_eq_true rfl) (hts (.fieldLink RX2 20 "DeadTimeLoop$Section" "ticks" "I") (List.mem_of_getElem? (i := 4) rfl)) (fun _ h9 => h9) rfl (tyX2_ok 3 (Nat.le_of_ble_eq_true rfl)) rfl rfl (Nat.le_of_ble_eq_true rfl) dX2_begin_17 (fun H locs hP hD hS => ?_)
  have hP : va_P (gD Γ) vwCl (secW Γ a b (0, 0, 0, 0, (sUp x))) H := hP
  have hD : va_D A (secW Γ a b (0, 0, 0, 0, (sUp x))) := hD
  refine lv_aload_n hx hb dX2_begin_20 rfl (lv_at hl 0 rfl) ?_
  refine lv_iload_n hx hb dX2_begin_21 rfl (lv_at hl 1 rfl) ?_
  refine va_put (D := gD Γ) (cl := vwCl) (tys := gTy Γ) (ci := 2) (v := .int up) (ty := tyX2 4) (C := RX2) (T := TX2) (N := 5) hx hb hts iX2_begin_2 tyX2 tyX2_ok nmX2 hown hK hP hD hS 0 rfl rfl 4 (Nat.le_of_ble_eq_true rfl) (hts (.fieldLink RX2 23 "DeadTimeLoop$Section" "upwards" "Z") (List.mem_of_getElem? (i := 5) rfl)) (fun _ h9 => h9) rfl (tyX2_ok 4 (Nat.le_of_ble_eq_true rfl)) (isB_nar hup) (isB_fit hup) (Nat.le_of_ble_eq_true rfl) dX2_begin_22 (fun H locs hP hD hS => ?_)
  have hP : va_P (gD Γ) vwCl (secW Γ a b (0, 0, 0, 0, up)) H := hP
  have hD : va_D A (secW Γ a b (0, 0, 0, 0, up)) := hD
  exact re_v hQ ha hx hb hr hlk hAe hP hS dX2_begin_25 (by skip; first | rfl | simp [])
def rm_X2_copy : Room := { frames := 0, cells := 0, slots := 0, locals := 0 }
theorem iX2_copy_2 : ∀ w ∈ u_ws RX2 TX2 5, w ∈ wsX2_copy := fun w h => (List.mem_cons_of_mem _ (List.mem_append_right _ h))
set_option maxHeartbeats 1000000 in
set_option maxRecDepth 100000 in
theorem c_X2_copy (Γ : gT) (l : Launch) (a : Nat → Nat) (b : Nat) (a2 : Nat → Nat) (b2 : Nat) (x : Sec) (x2 : Sec) (hup : sUp x2 = 0 ∨ sUp x2 = 1) : Cv Γ l yX2_copy wsX2_copy rm_X2_copy [.ref (a b), .ref (a2 b2)] (secW Γ a b x ++ secW Γ a2 b2 x2) (secW Γ a b (x2) ++ secW Γ a2 b2 x2) := by
  refine Cv.of (cc := cX2_copy) (own := RX2) (nL := 2) (ret := none) (by decide +kernel) rfl rfl (Nat.le_of_ble_eq_true rfl) ?_
  intro p e s m args below meth c A Q H locs ls ha hAe hQ hx hb hml hr hts hown hlk hP hK hD hS hA hG hl
  have hh : Hd Γ p s m args c cX2_copy RX2 2 wsX2_copy A := ⟨⟨hx, hb, hml, hown, hts⟩, hK, hA, hG⟩
  have hl : lv_has ls 2 [(0, .ref (a b)), (1, .ref (a2 b2))] := hl
  refine lv_aload_n hx hb dX2_copy_0 rfl (lv_at hl 0 rfl) ?_
  refine lv_aload_n hx hb dX2_copy_1 rfl (lv_at hl 1 rfl) ?_
  refine va_get (D := gD Γ) (cl := vwCl) (tys := gTy Γ) (ci := 2) (v := .long (sErr x2)) (C := RX2) (T := TX2) (N := 5) hx hb hts iX2_copy_2 hown hK hP 1 rfl rfl 0 (Nat.le_of_ble_eq_true rfl) (hts (.fieldLink RX2 7 "DeadTimeLoop$Section" "errorSum" "J") (List.mem_of_getElem? (i := 1) rfl)) (fun _ h9 => h9) rfl dX2_copy_2 ?_
  refine va_put (D := gD Γ) (cl := vwCl) (tys := gTy Γ) (ci := 2) (v := .long (sErr x2)) (ty := tyX2 0) (C := RX2) (T := TX2) (N := 5) hx hb hts iX2_copy_2 tyX2 tyX2_ok nmX2 hown hK hP hD hS 0 rfl rfl 0 (Nat.le_of_ble_eq_true rfl) (hts (.fieldLink RX2 7 "DeadTimeLoop$Section" "errorSum" "J") (List.mem_of_getElem? (i := 1) rfl)) (fun _ h9 => h9) rfl (tyX2_ok 0 (Nat.le_of_ble_eq_true rfl)) rfl rfl (Nat.le_of_ble_eq_true rfl) dX2_copy_5 (fun H locs hP hD hS => ?_)
  have hP : va_P (gD Γ) vwCl (secW Γ a b ((sErr x2), (sEff x), (sOver x), (sTicks x), (sUp x)) ++ secW Γ a2 b2 x2) H := hP
  have hD : va_D A (secW Γ a b ((sErr x2), (sEff x), (sOver x), (sTicks x), (sUp x)) ++ secW Γ a2 b2 x2) := hD
  refine lv_aload_n hx hb dX2_copy_8 rfl (lv_at hl 0 rfl) ?_
  refine lv_aload_n hx hb dX2_copy_9 rfl (lv_at hl 1 rfl) ?_
  refine va_get (D := gD Γ) (cl := vwCl) (tys := gTy Γ) (ci := 2) (v := .long (sEff x2)) (C := RX2) (T := TX2) (N := 5) hx hb hts iX2_copy_2 hown hK hP 1 rfl rfl 1 (Nat.le_of_ble_eq_true rfl) (hts (.fieldLink RX2 13 "DeadTimeLoop$Section" "effort" "J") (List.mem_of_getElem? (i := 2) rfl)) (fun _ h9 => h9) rfl dX2_copy_10 ?_
  refine va_put (D := gD Γ) (cl := vwCl) (tys := gTy Γ) (ci := 2) (v := .long (sEff x2)) (ty := tyX2 1) (C := RX2) (T := TX2) (N := 5) hx hb hts iX2_copy_2 tyX2 tyX2_ok nmX2 hown hK hP hD hS 0 rfl rfl 1 (Nat.le_of_ble_eq_true rfl) (hts (.fieldLink RX2 13 "DeadTimeLoop$Section" "effort" "J") (List.mem_of_getElem? (i := 2) rfl)) (fun _ h9 => h9) rfl (tyX2_ok 1 (Nat.le_of_ble_eq_true rfl)) rfl rfl (Nat.le_of_ble_eq_true rfl) dX2_copy_13 (fun H locs hP hD hS => ?_)
  have hP : va_P (gD Γ) vwCl (secW Γ a b ((sErr x2), (sEff x2), (sOver x), (sTicks x), (sUp x)) ++ secW Γ a2 b2 x2) H := hP
  have hD : va_D A (secW Γ a b ((sErr x2), (sEff x2), (sOver x), (sTicks x), (sUp x)) ++ secW Γ a2 b2 x2) := hD
  refine lv_aload_n hx hb dX2_copy_16 rfl (lv_at hl 0 rfl) ?_
  refine lv_aload_n hx hb dX2_copy_17 rfl (lv_at hl 1 rfl) ?_
  refine va_get (D := gD Γ) (cl := vwCl) (tys := gTy Γ) (ci := 2) (v := .int (sOver x2)) (C := RX2) (T := TX2) (N := 5) hx hb hts iX2_copy_2 hown hK hP 1 rfl rfl 2 (Nat.le_of_ble_eq_true rfl) (hts (.fieldLink RX2 16 "DeadTimeLoop$Section" "overshoot" "I") (List.mem_of_getElem? (i := 3) rfl)) (fun _ h9 => h9) rfl dX2_copy_18 ?_
  refine va_put (D := gD Γ) (cl := vwCl) (tys := gTy Γ) (ci := 2) (v := .int (sOver x2)) (ty := tyX2 2) (C := RX2) (T := TX2) (N := 5) hx hb hts iX2_copy_2 tyX2 tyX2_ok nmX2 hown hK hP hD hS 0 rfl rfl 2 (Nat.le_of_ble_eq_true rfl) (hts (.fieldLink RX2 16 "DeadTimeLoop$Section" "overshoot" "I") (List.mem_of_getElem? (i := 3) rfl)) (fun _ h9 => h9) rfl (tyX2_ok 2 (Nat.le_of_ble_eq_true rfl)) rfl rfl (Nat.le_of_ble_eq_true rfl) dX2_copy_21 (fun H locs hP hD hS => ?_)
  have hP : va_P (gD Γ) vwCl (secW Γ a b ((sErr x2), (sEff x2), (sOver x2), (sTicks x), (sUp x)) ++ secW Γ a2 b2 x2) H := hP
  have hD : va_D A (secW Γ a b ((sErr x2), (sEff x2), (sOver x2), (sTicks x), (sUp x)) ++ secW Γ a2 b2 x2) := hD
  refine lv_aload_n hx hb dX2_copy_24 rfl (lv_at hl 0 rfl) ?_
  refine lv_aload_n hx hb dX2_copy_25 rfl (lv_at hl 1 rfl) ?_
  refine va_get (D := gD Γ) (cl := vwCl) (tys := gTy Γ) (ci := 2) (v := .int (sTicks x2)) (C := RX2) (T := TX2) (N := 5) hx hb hts iX2_copy_2 hown hK hP 1 rfl rfl 3 (Nat.le_of_ble_eq_true rfl) (hts (.fieldLink RX2 20 "DeadTimeLoop$Section" "ticks" "I") (List.mem_of_getElem? (i := 4) rfl)) (fun _ h9 => h9) rfl dX2_copy_26 ?_
  refine va_put (D := gD Γ) (cl := vwCl) (tys := gTy Γ) (ci := 2) (v := .int (sTicks x2)) (ty := tyX2 3) (C := RX2) (T := TX2) (N := 5) hx hb hts iX2_copy_2 tyX2 tyX2_ok nmX2 hown hK hP hD hS 0 rfl rfl 3 (Nat.le_of_ble_eq_true rfl) (hts (.fieldLink RX2 20 "DeadTimeLoop$Section" "ticks" "I") (List.mem_of_getElem? (i := 4) rfl)) (fun _ h9 => h9) rfl (tyX2_ok 3 (Nat.le_of_ble_eq_true rfl)) rfl rfl (Nat.le_of_ble_eq_true rfl) dX2_copy_29 (fun H locs hP hD hS => ?_)
  have hP : va_P (gD Γ) vwCl (secW Γ a b ((sErr x2), (sEff x2), (sOver x2), (sTicks x2), (sUp x)) ++ secW Γ a2 b2 x2) H := hP
  have hD : va_D A (secW Γ a b ((sErr x2), (sEff x2), (sOver x2), (sTicks x2), (sUp x)) ++ secW Γ a2 b2 x2) := hD
  refine lv_aload_n hx hb dX2_copy_32 rfl (lv_at hl 0 rfl) ?_
  refine lv_aload_n hx hb dX2_copy_33 rfl (lv_at hl 1 rfl) ?_
  refine va_get (D := gD Γ) (cl := vwCl) (tys := gTy Γ) (ci := 2) (v := .int (sUp x2)) (C := RX2) (T := TX2) (N := 5) hx hb hts iX2_copy_2 hown hK hP 1 rfl rfl 4 (Nat.le_of_ble_eq_true rfl) (hts (.fieldLink RX2 23 "DeadTimeLoop$Section" "upwards" "Z") (List.mem_of_getElem? (i := 5) rfl)) (fun _ h9 => h9) rfl dX2_copy_34 ?_
  refine va_put (D := gD Γ) (cl := vwCl) (tys := gTy Γ) (ci := 2) (v := .int (sUp x2)) (ty := tyX2 4) (C := RX2) (T := TX2) (N := 5) hx hb hts iX2_copy_2 tyX2 tyX2_ok nmX2 hown hK hP hD hS 0 rfl rfl 4 (Nat.le_of_ble_eq_true rfl) (hts (.fieldLink RX2 23 "DeadTimeLoop$Section" "upwards" "Z") (List.mem_of_getElem? (i := 5) rfl)) (fun _ h9 => h9) rfl (tyX2_ok 4 (Nat.le_of_ble_eq_true rfl)) (isB_nar hup) (isB_fit hup) (Nat.le_of_ble_eq_true rfl) dX2_copy_37 (fun H locs hP hD hS => ?_)
  have hP : va_P (gD Γ) vwCl (secW Γ a b ((sErr x2), (sEff x2), (sOver x2), (sTicks x2), (sUp x2)) ++ secW Γ a2 b2 x2) H := hP
  have hD : va_D A (secW Γ a b ((sErr x2), (sEff x2), (sOver x2), (sTicks x2), (sUp x2)) ++ secW Γ a2 b2 x2) := hD
  exact re_v hQ ha hx hb hr hlk hAe hP hS dX2_copy_40 (by skip; first | rfl | simp [])
def rm_X2_see : Room := { frames := 1, cells := 0, slots := 0, locals := 24 }
theorem iX2_see_2 : ∀ w ∈ u_ws RX2 TX2 5, w ∈ wsX2_see := fun w h => (List.mem_cons_of_mem _ (List.mem_append_right _ h))
set_option maxHeartbeats 1000000 in
set_option maxRecDepth 100000 in
theorem c_X2_see (Γ : gT) (l : Launch) (a : Nat → Nat) (b : Nat) (x : Sec) (r : Int32) (m1 : Int32) (d : Int32)  : Cv Γ l yX2_see wsX2_see rm_X2_see [.ref (a b), .int r, .int m1, .int d] (secW Γ a b x) (secW Γ a b (fSecSee x r m1 d)) := by
  refine Cv.of (cc := cX2_see) (own := RX2) (nL := 4) (ret := none) (by decide +kernel) rfl rfl (Nat.le_of_ble_eq_true rfl) ?_
  intro p e s m args below meth c A Q H locs ls ha hAe hQ hx hb hml hr hts hown hlk hP hK hD hS hA hG hl
  have hh : Hd Γ p s m args c cX2_see RX2 4 wsX2_see A := ⟨⟨hx, hb, hml, hown, hts⟩, hK, hA, hG⟩
  have hl : lv_has ls 4 [(0, .ref (a b)), (1, .int r), (2, .int m1), (3, .int d)] := hl
  refine lv_aload_n hx hb dX2_see_0 rfl (lv_at hl 0 rfl) ?_
  refine lv_dup hx hb dX2_see_1 rfl ?_
  refine va_get (D := gD Γ) (cl := vwCl) (tys := gTy Γ) (ci := 2) (v := .long (sErr x)) (C := RX2) (T := TX2) (N := 5) hx hb hts iX2_see_2 hown hK hP 0 rfl rfl 0 (Nat.le_of_ble_eq_true rfl) (hts (.fieldLink RX2 7 "DeadTimeLoop$Section" "errorSum" "J") (List.mem_of_getElem? (i := 1) rfl)) (fun _ h9 => h9) rfl dX2_see_2 ?_
  refine lv_iload_n hx hb dX2_see_5 rfl (lv_at hl 1 rfl) ?_
  refine lv_iload_n hx hb dX2_see_6 rfl (lv_at hl 2 rfl) ?_
  refine lv_isub hx hb dX2_see_7 ?_
  refine va_mabs hx hb (hml.trans hl.1.symm) hown (hts (.methodLink RX2 27 Lib.Math.abs.name) (List.mem_of_getElem? (i := 2) rfl)) (hts (.static Lib.Math.abs.name) (List.mem_of_getElem? (i := 3) rfl)) (hts (.initialized "java/lang/Math") (List.mem_of_getElem? (i := 4) rfl)) (hts (.code Lib.Math.abs.name Lib.Math.abs.code 1 (some .int)) (List.mem_of_getElem? (i := 5) rfl)) (Nat.le_of_ble_eq_true rfl) (Nat.le_of_ble_eq_true rfl) (Nat.le_of_ble_eq_true rfl) (Nat.le_of_ble_eq_true rfl) dX2_see_8 ?_
  refine W.eq (g2 := F0 m 11 ls [.int (kAbs (r - m1)), .long (sErr x), .ref (a b)]) rfl ?_
  refine lv_i2l (v := (kAbs (r - m1)).toInt64) hx hb dX2_see_11 rfl ?_
  refine lv_ladd hx hb dX2_see_12 ?_
  refine va_put (D := gD Γ) (cl := vwCl) (tys := gTy Γ) (ci := 2) (v := .long ((sErr x) + ((kAbs (r - m1)).toInt64))) (ty := tyX2 0) (C := RX2) (T := TX2) (N := 5) hx hb hts iX2_see_2 tyX2 tyX2_ok nmX2 hown hK hP hD hS 0 rfl rfl 0 (Nat.le_of_ble_eq_true rfl) (hts (.fieldLink RX2 7 "DeadTimeLoop$Section" "errorSum" "J") (List.mem_of_getElem? (i := 1) rfl)) (fun _ h9 => h9) rfl (tyX2_ok 0 (Nat.le_of_ble_eq_true rfl)) rfl rfl (Nat.le_of_ble_eq_true rfl) dX2_see_13 (fun H locs hP hD hS => ?_)
  have hP : va_P (gD Γ) vwCl (secW Γ a b (((sErr x) + ((kAbs (r - m1)).toInt64)), (sEff x), (sOver x), (sTicks x), (sUp x))) H := hP
  have hD : va_D A (secW Γ a b (((sErr x) + ((kAbs (r - m1)).toInt64)), (sEff x), (sOver x), (sTicks x), (sUp x))) := hD
  refine lv_aload_n hx hb dX2_see_16 rfl (lv_at hl 0 rfl) ?_
  refine lv_dup hx hb dX2_see_17 rfl ?_
  refine va_get (D := gD Γ) (cl := vwCl) (tys := gTy Γ) (ci := 2) (v := .long (sEff x)) (C := RX2) (T := TX2) (N := 5) hx hb hts iX2_see_2 hown hK hP 0 rfl rfl 1 (Nat.le_of_ble_eq_true rfl) (hts (.fieldLink RX2 13 "DeadTimeLoop$Section" "effort" "J") (List.mem_of_getElem? (i := 6) rfl)) (fun _ h9 => h9) rfl dX2_see_18 ?_
  refine lv_iload_n hx hb dX2_see_21 rfl (lv_at hl 3 rfl) ?_
  refine va_mabs hx hb (hml.trans hl.1.symm) hown (hts (.methodLink RX2 27 Lib.Math.abs.name) (List.mem_of_getElem? (i := 2) rfl)) (hts (.static Lib.Math.abs.name) (List.mem_of_getElem? (i := 3) rfl)) (hts (.initialized "java/lang/Math") (List.mem_of_getElem? (i := 4) rfl)) (hts (.code Lib.Math.abs.name Lib.Math.abs.code 1 (some .int)) (List.mem_of_getElem? (i := 5) rfl)) (Nat.le_of_ble_eq_true rfl) (Nat.le_of_ble_eq_true rfl) (Nat.le_of_ble_eq_true rfl) (Nat.le_of_ble_eq_true rfl) dX2_see_22 ?_
  refine W.eq (g2 := F0 m 25 ls [.int (kAbs d), .long (sEff x), .ref (a b)]) rfl ?_
  refine lv_i2l (v := (kAbs d).toInt64) hx hb dX2_see_25 rfl ?_
  refine lv_ladd hx hb dX2_see_26 ?_
  refine va_put (D := gD Γ) (cl := vwCl) (tys := gTy Γ) (ci := 2) (v := .long ((sEff x) + ((kAbs d).toInt64))) (ty := tyX2 1) (C := RX2) (T := TX2) (N := 5) hx hb hts iX2_see_2 tyX2 tyX2_ok nmX2 hown hK hP hD hS 0 rfl rfl 1 (Nat.le_of_ble_eq_true rfl) (hts (.fieldLink RX2 13 "DeadTimeLoop$Section" "effort" "J") (List.mem_of_getElem? (i := 6) rfl)) (fun _ h9 => h9) rfl (tyX2_ok 1 (Nat.le_of_ble_eq_true rfl)) rfl rfl (Nat.le_of_ble_eq_true rfl) dX2_see_27 (fun H locs hP hD hS => ?_)
  have hP : va_P (gD Γ) vwCl (secW Γ a b (((sErr x) + ((kAbs (r - m1)).toInt64)), ((sEff x) + ((kAbs d).toInt64)), (sOver x), (sTicks x), (sUp x))) H := hP
  have hD : va_D A (secW Γ a b (((sErr x) + ((kAbs (r - m1)).toInt64)), ((sEff x) + ((kAbs d).toInt64)), (sOver x), (sTicks x), (sUp x))) := hD
  refine lv_aload_n hx hb dX2_see_30 rfl (lv_at hl 0 rfl) ?_
  refine lv_aload_n hx hb dX2_see_31 rfl (lv_at hl 0 rfl) ?_
  refine va_get (D := gD Γ) (cl := vwCl) (tys := gTy Γ) (ci := 2) (v := .int (sOver x)) (C := RX2) (T := TX2) (N := 5) hx hb hts iX2_see_2 hown hK hP 0 rfl rfl 2 (Nat.le_of_ble_eq_true rfl) (hts (.fieldLink RX2 16 "DeadTimeLoop$Section" "overshoot" "I") (List.mem_of_getElem? (i := 7) rfl)) (fun _ h9 => h9) rfl dX2_see_32 ?_
  refine lv_aload_n hx hb dX2_see_35 rfl (lv_at hl 0 rfl) ?_
  refine va_get (D := gD Γ) (cl := vwCl) (tys := gTy Γ) (ci := 2) (v := .int (sUp x)) (C := RX2) (T := TX2) (N := 5) hx hb hts iX2_see_2 hown hK hP 0 rfl rfl 4 (Nat.le_of_ble_eq_true rfl) (hts (.fieldLink RX2 23 "DeadTimeLoop$Section" "upwards" "Z") (List.mem_of_getElem? (i := 8) rfl)) (fun _ h9 => h9) rfl dX2_see_36 ?_
  refine lv_if_eq (tgt := 48) hx hb dX2_see_39 (by decide) (fun c_39 => ?_) (fun c_39 => ?_)
  · -- yes
    refine lv_iload_n hx hb dX2_see_48 rfl (lv_at hl 1 rfl) ?_
    refine lv_iload_n hx hb dX2_see_49 rfl (lv_at hl 2 rfl) ?_
    refine lv_isub hx hb dX2_see_50 ?_
    refine va_mmax hx hb (hml.trans hl.1.symm) hown (hts (.methodLink RX2 33 Lib.Math.max.name) (List.mem_of_getElem? (i := 9) rfl)) (hts (.static Lib.Math.max.name) (List.mem_of_getElem? (i := 10) rfl)) (hts (.initialized "java/lang/Math") (List.mem_of_getElem? (i := 4) rfl)) (hts (.code Lib.Math.max.name Lib.Math.max.code 2 (some .int)) (List.mem_of_getElem? (i := 11) rfl)) (Nat.le_of_ble_eq_true rfl) (Nat.le_of_ble_eq_true rfl) (Nat.le_of_ble_eq_true rfl) (Nat.le_of_ble_eq_true rfl) dX2_see_51 ?_
    refine W.eq (g2 := F0 m 54 ls [.int (kMax (sOver x) (r - m1)), .ref (a b)]) rfl ?_
    refine va_put (D := gD Γ) (cl := vwCl) (tys := gTy Γ) (ci := 2) (v := .int (kMax (sOver x) (r - m1))) (ty := tyX2 2) (C := RX2) (T := TX2) (N := 5) hx hb hts iX2_see_2 tyX2 tyX2_ok nmX2 hown hK hP hD hS 0 rfl rfl 2 (Nat.le_of_ble_eq_true rfl) (hts (.fieldLink RX2 16 "DeadTimeLoop$Section" "overshoot" "I") (List.mem_of_getElem? (i := 7) rfl)) (fun _ h9 => h9) rfl (tyX2_ok 2 (Nat.le_of_ble_eq_true rfl)) rfl rfl (Nat.le_of_ble_eq_true rfl) dX2_see_54 (fun H locs hP hD hS => ?_)
    have hP : va_P (gD Γ) vwCl (secW Γ a b (((sErr x) + ((kAbs (r - m1)).toInt64)), ((sEff x) + ((kAbs d).toInt64)), (kMax (sOver x) (r - m1)), (sTicks x), (sUp x))) H := hP
    have hD : va_D A (secW Γ a b (((sErr x) + ((kAbs (r - m1)).toInt64)), ((sEff x) + ((kAbs d).toInt64)), (kMax (sOver x) (r - m1)), (sTicks x), (sUp x))) := hD
    refine lv_aload_n hx hb dX2_see_57 rfl (lv_at hl 0 rfl) ?_
    refine lv_dup hx hb dX2_see_58 rfl ?_
    refine va_get (D := gD Γ) (cl := vwCl) (tys := gTy Γ) (ci := 2) (v := .int (sTicks x)) (C := RX2) (T := TX2) (N := 5) hx hb hts iX2_see_2 hown hK hP 0 rfl rfl 3 (Nat.le_of_ble_eq_true rfl) (hts (.fieldLink RX2 20 "DeadTimeLoop$Section" "ticks" "I") (List.mem_of_getElem? (i := 12) rfl)) (fun _ h9 => h9) rfl dX2_see_59 ?_
    refine lv_iconst (v := 1) hx hb dX2_see_62 (by decide) ?_
    refine lv_iadd hx hb dX2_see_63 ?_
    refine va_put (D := gD Γ) (cl := vwCl) (tys := gTy Γ) (ci := 2) (v := .int ((sTicks x) + 1)) (ty := tyX2 3) (C := RX2) (T := TX2) (N := 5) hx hb hts iX2_see_2 tyX2 tyX2_ok nmX2 hown hK hP hD hS 0 rfl rfl 3 (Nat.le_of_ble_eq_true rfl) (hts (.fieldLink RX2 20 "DeadTimeLoop$Section" "ticks" "I") (List.mem_of_getElem? (i := 12) rfl)) (fun _ h9 => h9) rfl (tyX2_ok 3 (Nat.le_of_ble_eq_true rfl)) rfl rfl (Nat.le_of_ble_eq_true rfl) dX2_see_64 (fun H locs hP hD hS => ?_)
    have hP : va_P (gD Γ) vwCl (secW Γ a b (((sErr x) + ((kAbs (r - m1)).toInt64)), ((sEff x) + ((kAbs d).toInt64)), (kMax (sOver x) (r - m1)), ((sTicks x) + 1), (sUp x))) H := hP
    have hD : va_D A (secW Γ a b (((sErr x) + ((kAbs (r - m1)).toInt64)), ((sEff x) + ((kAbs d).toInt64)), (kMax (sOver x) (r - m1)), ((sTicks x) + 1), (sUp x))) := hD
    exact re_v hQ ha hx hb hr hlk hAe hP hS dX2_see_67 (by skip; first | rfl | simp [fSecSee, fOver, c_39])
  · -- no
    refine lv_iload_n hx hb dX2_see_42 rfl (lv_at hl 2 rfl) ?_
    refine lv_iload_n hx hb dX2_see_43 rfl (lv_at hl 1 rfl) ?_
    refine lv_isub hx hb dX2_see_44 ?_
    refine lv_goto (tgt := 51) hx hb dX2_see_45 (by decide) ?_
    refine va_mmax hx hb (hml.trans hl.1.symm) hown (hts (.methodLink RX2 33 Lib.Math.max.name) (List.mem_of_getElem? (i := 9) rfl)) (hts (.static Lib.Math.max.name) (List.mem_of_getElem? (i := 10) rfl)) (hts (.initialized "java/lang/Math") (List.mem_of_getElem? (i := 4) rfl)) (hts (.code Lib.Math.max.name Lib.Math.max.code 2 (some .int)) (List.mem_of_getElem? (i := 11) rfl)) (Nat.le_of_ble_eq_true rfl) (Nat.le_of_ble_eq_true rfl) (Nat.le_of_ble_eq_true rfl) (Nat.le_of_ble_eq_true rfl) dX2_see_51 ?_
    refine W.eq (g2 := F0 m 54 ls [.int (kMax (sOver x) (m1 - r)), .ref (a b)]) rfl ?_
    refine va_put (D := gD Γ) (cl := vwCl) (tys := gTy Γ) (ci := 2) (v := .int (kMax (sOver x) (m1 - r))) (ty := tyX2 2) (C := RX2) (T := TX2) (N := 5) hx hb hts iX2_see_2 tyX2 tyX2_ok nmX2 hown hK hP hD hS 0 rfl rfl 2 (Nat.le_of_ble_eq_true rfl) (hts (.fieldLink RX2 16 "DeadTimeLoop$Section" "overshoot" "I") (List.mem_of_getElem? (i := 7) rfl)) (fun _ h9 => h9) rfl (tyX2_ok 2 (Nat.le_of_ble_eq_true rfl)) rfl rfl (Nat.le_of_ble_eq_true rfl) dX2_see_54 (fun H locs hP hD hS => ?_)
    have hP : va_P (gD Γ) vwCl (secW Γ a b (((sErr x) + ((kAbs (r - m1)).toInt64)), ((sEff x) + ((kAbs d).toInt64)), (kMax (sOver x) (m1 - r)), (sTicks x), (sUp x))) H := hP
    have hD : va_D A (secW Γ a b (((sErr x) + ((kAbs (r - m1)).toInt64)), ((sEff x) + ((kAbs d).toInt64)), (kMax (sOver x) (m1 - r)), (sTicks x), (sUp x))) := hD
    refine lv_aload_n hx hb dX2_see_57 rfl (lv_at hl 0 rfl) ?_
    refine lv_dup hx hb dX2_see_58 rfl ?_
    refine va_get (D := gD Γ) (cl := vwCl) (tys := gTy Γ) (ci := 2) (v := .int (sTicks x)) (C := RX2) (T := TX2) (N := 5) hx hb hts iX2_see_2 hown hK hP 0 rfl rfl 3 (Nat.le_of_ble_eq_true rfl) (hts (.fieldLink RX2 20 "DeadTimeLoop$Section" "ticks" "I") (List.mem_of_getElem? (i := 12) rfl)) (fun _ h9 => h9) rfl dX2_see_59 ?_
    refine lv_iconst (v := 1) hx hb dX2_see_62 (by decide) ?_
    refine lv_iadd hx hb dX2_see_63 ?_
    refine va_put (D := gD Γ) (cl := vwCl) (tys := gTy Γ) (ci := 2) (v := .int ((sTicks x) + 1)) (ty := tyX2 3) (C := RX2) (T := TX2) (N := 5) hx hb hts iX2_see_2 tyX2 tyX2_ok nmX2 hown hK hP hD hS 0 rfl rfl 3 (Nat.le_of_ble_eq_true rfl) (hts (.fieldLink RX2 20 "DeadTimeLoop$Section" "ticks" "I") (List.mem_of_getElem? (i := 12) rfl)) (fun _ h9 => h9) rfl (tyX2_ok 3 (Nat.le_of_ble_eq_true rfl)) rfl rfl (Nat.le_of_ble_eq_true rfl) dX2_see_64 (fun H locs hP hD hS => ?_)
    have hP : va_P (gD Γ) vwCl (secW Γ a b (((sErr x) + ((kAbs (r - m1)).toInt64)), ((sEff x) + ((kAbs d).toInt64)), (kMax (sOver x) (m1 - r)), ((sTicks x) + 1), (sUp x))) H := hP
    have hD : va_D A (secW Γ a b (((sErr x) + ((kAbs (r - m1)).toInt64)), ((sEff x) + ((kAbs d).toInt64)), (kMax (sOver x) (m1 - r)), ((sTicks x) + 1), (sUp x))) := hD
    exact re_v hQ ha hx hb hr hlk hAe hP hS dX2_see_67 (by skip; first | rfl | simp [fSecSee, fOver, c_39])
