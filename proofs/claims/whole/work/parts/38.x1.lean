def rm_X6_allows : Room := { frames := 1, cells := 0, slots := 0, locals := 20 }
set_option maxHeartbeats 1000000 in
set_option maxRecDepth 100000 in
theorem c_X6_allows (Γ : gT) (l : Launch) (k : Int32) (v : Int32)  : Ci Γ l yX6_allows wsX6_allows rm_X6_allows [.int k, .int v] ([]) (fAllows k v) ([]) := by
  refine Ci.of (cc := cX6_allows) (own := RX6) (nL := 2) (ret := (some .boolean)) (by decide +kernel) rfl rfl (Nat.le_of_ble_eq_true rfl) ?_
  intro p e s m args below meth c A Q H locs ls ha hAe hQ hx hb hml hr hts hown hlk hP hK hD hS hA hG hl
  have hh : Hd Γ p s m args c cX6_allows RX6 2 wsX6_allows A := ⟨⟨hx, hb, hml, hown, hts⟩, hK, hA, hG⟩
  have hl : lv_has ls 2 [(0, .int k), (1, .int v)] := hl
  refine lv_iload_n hx hb dX6_allows_0 rfl (lv_at hl 0 rfl) ?_
  refine ca_Si hh hl.1 (c_X6_isParameter Γ l k) (va_cwS 1 hts gX6_allows_X6_isParameter rfl rfl rfl (by decide +kernel) ⟨(Nat.le_of_ble_eq_true rfl), (Nat.le_of_ble_eq_true rfl)⟩) (As := [.int k]) (rest := []) rfl dX6_allows_1 rfl (Nat.le_of_ble_eq_true rfl) hP hD hS ⟨Nat.zero_le _, Nat.zero_le _⟩ (fun H locs hP hS => ?_)
  refine lv_if_eq (tgt := 29) hx hb dX6_allows_4 (by decide) (fun c_4 => ?_) (fun c_4 => ?_)
  · -- yes
    refine lv_iconst (v := 0) hx hb dX6_allows_29 (by decide) ?_
    exact re_z hQ ha hx hb hr hlk hAe hP hS dX6_allows_30 rfl (by skip; first | rfl | simp [fAllows, c_4]) (by skip; first | rfl | simp [fAllows, c_4])
  · -- no
    refine lv_iload_n hx hb dX6_allows_7 rfl (lv_at hl 1 rfl) ?_
    refine va_gets hx hb hG.2.2.1.1 hS hown (hts (.fieldLink RX6 244 "DeadTimeLoop" "LEAST" "[I") (List.mem_of_getElem? (i := 1) rfl)) (fun _ h9 => h9) dX6_allows_8 ?_
    refine lv_iload_n hx hb dX6_allows_11 rfl (lv_at hl 0 rfl) ?_
    refine va_ti (v := .int (pLeast k.toNatClampNeg)) hx hb hG.2.2.1.2 hS (fPar_in c_4) rfl dX6_allows_12 ?_
    refine lv_icmp_lt (tgt := 29) hx hb dX6_allows_13 (by decide) (fun c_13 => ?_) (fun c_13 => ?_)
    · -- yes
      refine lv_iconst (v := 0) hx hb dX6_allows_29 (by decide) ?_
      exact re_z hQ ha hx hb hr hlk hAe hP hS dX6_allows_30 rfl (by skip; first | rfl | simp [fAllows, c_4, c_13]) (by skip; first | rfl | simp [fAllows, c_4, c_13])
    · -- no
      refine lv_iload_n hx hb dX6_allows_16 rfl (lv_at hl 1 rfl) ?_
      refine va_gets hx hb hG.2.2.2.1.1 hS hown (hts (.fieldLink RX6 247 "DeadTimeLoop" "GREATEST" "[I") (List.mem_of_getElem? (i := 2) rfl)) (fun _ h9 => h9) dX6_allows_17 ?_
      refine lv_iload_n hx hb dX6_allows_20 rfl (lv_at hl 0 rfl) ?_
      refine va_ti (v := .int (pGreatest k.toNatClampNeg)) hx hb hG.2.2.2.1.2 hS (fPar_in c_4) rfl dX6_allows_21 ?_
      refine lv_icmp_gt (tgt := 29) hx hb dX6_allows_22 (by decide) (fun c_22 => ?_) (fun c_22 => ?_)
      · -- yes
        refine lv_iconst (v := 0) hx hb dX6_allows_29 (by decide) ?_
        exact re_z hQ ha hx hb hr hlk hAe hP hS dX6_allows_30 rfl (by skip; first | rfl | simp [fAllows, c_4, c_13, c_22]) (by skip; first | rfl | simp [fAllows, c_4, c_13, c_22])
      · -- no
        refine lv_iconst (v := 1) hx hb dX6_allows_25 (by decide) ?_
        refine lv_goto (tgt := 30) hx hb dX6_allows_26 (by decide) ?_
        exact re_z hQ ha hx hb hr hlk hAe hP hS dX6_allows_30 rfl (by skip; first | rfl | simp [fAllows, c_4, c_13, c_22]) (by skip; first | rfl | simp [fAllows, c_4, c_13, c_22])
def rm_X4_append : Room := { frames := 0, cells := 0, slots := 0, locals := 0 }
theorem iX4_append_4 : ∀ w ∈ u_ws RX4 TX4 5, w ∈ wsX4_append := fun w h => (List.mem_cons_of_mem _ (List.mem_append_right _ h))
set_option maxHeartbeats 1000000 in
set_option maxRecDepth 100000 in
theorem c_X4_append (Γ : gT) (l : Launch) (a : Nat → Nat) (b : Nat) (t : Txt) (ch : Int32) (hl0 : ¬ tLen t < 0) (hch : vp_nar .char ch = ch) : Ci Γ l yX4_append wsX4_append rm_X4_append [.ref (a b), .int ch] (txtW Γ a b t) (tAppR (tLen t)) (txtW Γ a b (tApp t ch)) := by
  refine Ci.of (cc := cX4_append) (own := RX4) (nL := 2) (ret := (some .boolean)) (by decide +kernel) rfl rfl (Nat.le_of_ble_eq_true rfl) ?_
  intro p e s m args below meth c A Q H locs ls ha hAe hQ hx hb hml hr hts hown hlk hP hK hD hS hA hG hl
  have hh : Hd Γ p s m args c cX4_append RX4 2 wsX4_append A := ⟨⟨hx, hb, hml, hown, hts⟩, hK, hA, hG⟩
  have hl : lv_has ls 2 [(0, .ref (a b)), (1, .int ch)] := hl
  refine lv_aload_n hx hb dX4_append_0 rfl (lv_at hl 0 rfl) ?_
  refine va_get (D := gD Γ) (cl := vwCl) (tys := gTy Γ) (ci := 4) (v := .int (tLen t)) (C := RX4) (T := TX4) (N := 5) hx hb hts iX4_append_4 hown hK hP 0 rfl rfl 3 (Nat.le_of_ble_eq_true rfl) (hts (.fieldLink RX4 22 "DeadTimeLoop$Text" "length" "I") (List.mem_of_getElem? (i := 1) rfl)) (fun _ h9 => h9) rfl dX4_append_1 ?_
  refine lv_bipush (v := 80) hx hb dX4_append_4 (by decide) ?_
  refine lv_icmp_lt (tgt := 11) hx hb dX4_append_6 (by decide) (fun c_6 => ?_) (fun c_6 => ?_)
  · -- yes
    refine lv_aload_n hx hb dX4_append_11 rfl (lv_at hl 0 rfl) ?_
    refine va_get (D := gD Γ) (cl := vwCl) (tys := gTy Γ) (ci := 4) (v := .ref (a (b + 1))) (C := RX4) (T := TX4) (N := 5) hx hb hts iX4_append_4 hown hK hP 0 rfl rfl 0 (Nat.le_of_ble_eq_true rfl) (hts (.fieldLink RX4 9 "DeadTimeLoop$Text" "characters" "[C") (List.mem_of_getElem? (i := 2) rfl)) (fun _ h9 => h9) rfl dX4_append_12 ?_
    refine lv_aload_n hx hb dX4_append_15 rfl (lv_at hl 0 rfl) ?_
    refine va_get (D := gD Γ) (cl := vwCl) (tys := gTy Γ) (ci := 4) (v := .int (tLen t)) (C := RX4) (T := TX4) (N := 5) hx hb hts iX4_append_4 hown hK hP 0 rfl rfl 3 (Nat.le_of_ble_eq_true rfl) (hts (.fieldLink RX4 22 "DeadTimeLoop$Text" "length" "I") (List.mem_of_getElem? (i := 1) rfl)) (fun _ h9 => h9) rfl dX4_append_16 ?_
    refine lv_iload_n hx hb dX4_append_19 rfl (lv_at hl 1 rfl) ?_
    refine ka_cast (D := gD Γ) (cl := vwCl) (tys := gTy Γ) hx hb hK hP hD hS 1 2 rfl rfl ((tLen t).toNatClampNeg) (nI_of_in (in_rng (n := 80) (by decide) hl0 (Int32.not_le.mpr c_6)) (by decide)) (in_lt (in_rng (n := 80) (by decide) hl0 (Int32.not_le.mpr c_6))) (by decide) hch (wf := txtW Γ a b ((upd (tChars t) ((tLen t).toNatClampNeg) ch), (tTarg t), (tWant t), (tLen t), (tCnt t))) rfl dX4_append_20 (fun H locs hP hD hS => ?_)
    refine lv_aload_n hx hb dX4_append_21 rfl (lv_at hl 0 rfl) ?_
    refine lv_dup hx hb dX4_append_22 rfl ?_
    refine va_get (D := gD Γ) (cl := vwCl) (tys := gTy Γ) (ci := 4) (v := .int (tLen t)) (C := RX4) (T := TX4) (N := 5) hx hb hts iX4_append_4 hown hK hP 0 rfl rfl 3 (Nat.le_of_ble_eq_true rfl) (hts (.fieldLink RX4 22 "DeadTimeLoop$Text" "length" "I") (List.mem_of_getElem? (i := 1) rfl)) (fun _ h9 => h9) rfl dX4_append_23 ?_
    refine lv_iconst (v := 1) hx hb dX4_append_26 (by decide) ?_
    refine lv_iadd hx hb dX4_append_27 ?_
    refine va_put (D := gD Γ) (cl := vwCl) (tys := gTy Γ) (ci := 4) (v := .int ((tLen t) + 1)) (ty := tyX4 3) (C := RX4) (T := TX4) (N := 5) hx hb hts iX4_append_4 tyX4 tyX4_ok nmX4 hown hK hP hD hS 0 rfl rfl 3 (Nat.le_of_ble_eq_true rfl) (hts (.fieldLink RX4 22 "DeadTimeLoop$Text" "length" "I") (List.mem_of_getElem? (i := 1) rfl)) (fun _ h9 => h9) rfl (tyX4_ok 3 (Nat.le_of_ble_eq_true rfl)) rfl rfl (Nat.le_of_ble_eq_true rfl) dX4_append_28 (fun H locs hP hD hS => ?_)
    have hP : va_P (gD Γ) vwCl (txtW Γ a b ((upd (tChars t) ((tLen t).toNatClampNeg) ch), (tTarg t), (tWant t), ((tLen t) + 1), (tCnt t))) H := hP
    have hD : va_D A (txtW Γ a b ((upd (tChars t) ((tLen t).toNatClampNeg) ch), (tTarg t), (tWant t), ((tLen t) + 1), (tCnt t))) := hD
    refine lv_iconst (v := 1) hx hb dX4_append_31 (by decide) ?_
    exact re_z hQ ha hx hb hr hlk hAe hP hS dX4_append_32 rfl (by skip; first | rfl | simp [tApp, tAppR, c_6]) (by skip; first | rfl | simp [tApp, tAppR, c_6])
  · -- no
    refine lv_iconst (v := 0) hx hb dX4_append_9 (by decide) ?_
    exact re_z hQ ha hx hb hr hlk hAe hP hS dX4_append_10 rfl (by skip; first | rfl | simp [tApp, tAppR, c_6]) (by skip; first | rfl | simp [tApp, tAppR, c_6])
def rm_X6_setParameter : Room := { frames := 3, cells := 0, slots := 0, locals := 70 }
theorem iX6_setParameter_6 : ∀ w ∈ u_ws RX6 TX6 11, w ∈ wsX6_setParameter := fun w h => (List.mem_cons_of_mem _ (List.mem_append_left _ (List.mem_append_left _ (List.mem_append_right _ h))))
set_option maxHeartbeats 1000000 in
set_option maxRecDepth 100000 in
theorem c_X6_setParameter (Γ : gT) (l : Launch) (a : Nat → Nat) (x : Xst) (k : Int32) (v : Int32) (hc : cOk (xChg x)) : Ci Γ l yX6_setParameter wsX6_setParameter rm_X6_setParameter [.ref (a 0), .int k, .int v] (xW Γ a x) (rSetParameter x k v) (xW Γ a (gSetParameter x k v)) := by
  refine Ci.of (cc := cX6_setParameter) (own := RX6) (nL := 4) (ret := (some .int)) (by decide +kernel) rfl rfl (Nat.le_of_ble_eq_true rfl) ?_
  intro p e s m args below meth c A Q H locs ls ha hAe hQ hx hb hml hr hts hown hlk hP hK hD hS hA hG hl
  have hh : Hd Γ p s m args c cX6_setParameter RX6 4 wsX6_setParameter A := ⟨⟨hx, hb, hml, hown, hts⟩, hK, hA, hG⟩
  have hl : lv_has ls 4 [(0, .ref (a 0)), (1, .int k), (2, .int v)] := hl
  refine lv_iload_n hx hb dX6_setParameter_0 rfl (lv_at hl 1 rfl) ?_
  refine lv_iload_n hx hb dX6_setParameter_1 rfl (lv_at hl 2 rfl) ?_
  refine ca_Si hh hl.1 (c_X6_allows Γ l k v) (va_cwS 2 hts gX6_setParameter_X6_allows rfl rfl rfl (by decide +kernel) ⟨(Nat.le_of_ble_eq_true rfl), (Nat.le_of_ble_eq_true rfl)⟩) (As := [.int k, .int v]) (rest := []) rfl dX6_setParameter_2 rfl (Nat.le_of_ble_eq_true rfl) hP hD hS ⟨Nat.zero_le _, Nat.zero_le _⟩ (fun H locs hP hS => ?_)
  refine lv_if_ne (tgt := 11) hx hb dX6_setParameter_5 (by decide) (fun c_5 => ?_) (fun c_5 => ?_)
  · -- yes
    refine lv_aload_n hx hb dX6_setParameter_11 rfl (lv_at hl 0 rfl) ?_
    refine va_get (D := gD Γ) (cl := vwCl) (tys := gTy Γ) (ci := 6) (v := .ref (a 1)) (C := RX6) (T := TX6) (N := 11) hx hb hts iX6_setParameter_6 hown hK hP 0 rfl rfl 0 (Nat.le_of_ble_eq_true rfl) (hts (.fieldLink RX6 12 "DeadTimeLoop" "settings" "LDeadTimeLoop$Settings;") (List.mem_of_getElem? (i := 2) rfl)) (fun _ h9 => h9) rfl dX6_setParameter_12 ?_
    refine lv_iload_n hx hb dX6_setParameter_15 rfl (lv_at hl 1 rfl) ?_
    refine ca_Vi hh hl.1 (c_X3_get Γ l a 1 (xSet x) k) (cwV 1 hts gX6_setParameter_X3_get rfl rfl rfl (by decide +kernel) ⟨(Nat.le_of_ble_eq_true rfl), (Nat.le_of_ble_eq_true rfl)⟩) (As := [.int k]) (rest := []) rfl dX6_setParameter_16 rfl (Nat.le_of_ble_eq_true rfl) hP hD hS [1, 2] rfl (xB_at_settings Γ a _) (q0 := 1) (ci := 3) rfl rfl rfl 2 rfl rfl (wf := xW Γ a x) (xB_up_settings Γ a _ _) (xW_addr _ _ _ _) ⟨Nat.zero_le _, Nat.zero_le _⟩ (fun H locs hP hD hS => ?_)
    refine lv_istore_n (lv' := [(3, .int (fGet (xSet x) k)), (0, .ref (a 0)), (1, .int k), (2, .int v)]) hx hb dX6_setParameter_19 rfl hl (by decide) rfl (fun ls hl => ?_)
    refine lv_aload_n hx hb dX6_setParameter_20 rfl (lv_at hl 1 rfl) ?_
    refine va_get (D := gD Γ) (cl := vwCl) (tys := gTy Γ) (ci := 6) (v := .ref (a 3)) (C := RX6) (T := TX6) (N := 11) hx hb hts iX6_setParameter_6 hown hK hP 0 rfl rfl 1 (Nat.le_of_ble_eq_true rfl) (hts (.fieldLink RX6 19 "DeadTimeLoop" "changes" "LDeadTimeLoop$Changes;") (List.mem_of_getElem? (i := 3) rfl)) (fun _ h9 => h9) rfl dX6_setParameter_21 ?_
    refine lv_aload_n hx hb dX6_setParameter_24 rfl (lv_at hl 1 rfl) ?_
    refine va_get (D := gD Γ) (cl := vwCl) (tys := gTy Γ) (ci := 6) (v := .ref (a 1)) (C := RX6) (T := TX6) (N := 11) hx hb hts iX6_setParameter_6 hown hK hP 0 rfl rfl 0 (Nat.le_of_ble_eq_true rfl) (hts (.fieldLink RX6 12 "DeadTimeLoop" "settings" "LDeadTimeLoop$Settings;") (List.mem_of_getElem? (i := 2) rfl)) (fun _ h9 => h9) rfl dX6_setParameter_25 ?_
    obtain ⟨u_28, eu_28⟩ : ∃ z : Chg, z = cKeep (xChg x) (xSet x) := ⟨_, rfl⟩
    have hM_28 : Cv Γ l yX0_keep wsX0_keep rm_X0_keep [.ref (a 3), .ref (a 1)] (chgW Γ a 3 (xChg x) ++ setW Γ a 1 (xSet x)) (chgW Γ a 3 u_28 ++ setW Γ a 1 (xSet x)) := by rw [eu_28]; exact c_X0_keep Γ l a 3 a 1 (xChg x) (xSet x) hc
    refine ca_Vv hh hl.1 hM_28 (cwV 1 hts gX6_setParameter_X0_keep rfl rfl rfl (by decide +kernel) ⟨(Nat.le_of_ble_eq_true rfl), (Nat.le_of_ble_eq_true rfl)⟩) (As := [.ref (a 1)]) (rest := []) rfl dX6_setParameter_28 rfl (Nat.le_of_ble_eq_true rfl) hP hD hS ([3, 4, 5, 6, 7, 8, 9, 10] ++ [1, 2]) rfl (map_app2 (xB_at_changes Γ a _) (xB_at_settings Γ a _)) (q0 := 3) (ci := 0) rfl rfl rfl 10 rfl rfl (wf := xW Γ a ((xSet x), u_28, (xTxt x), (xLoop x), (xFst x), (xSnd x), (xCnt x), (xTs x), (xIs x), (xTrial x), (xIdeal x))) ((va_upd_app [3, 4, 5, 6, 7, 8, 9, 10] _ _ [1, 2] _ rfl).trans ((congrArg (fun z => va_upd z [1, 2] _) (xB_up_changes Γ a _ _)).trans (xB_up_settings Γ a _ _))) (xW_addr _ _ _ _) ⟨Nat.zero_le _, Nat.zero_le _⟩ (fun H locs hP hD hS => ?_)
    refine lv_aload_n hx hb dX6_setParameter_31 rfl (lv_at hl 1 rfl) ?_
    refine va_get (D := gD Γ) (cl := vwCl) (tys := gTy Γ) (ci := 6) (v := .ref (a 1)) (C := RX6) (T := TX6) (N := 11) hx hb hts iX6_setParameter_6 hown hK hP 0 rfl rfl 0 (Nat.le_of_ble_eq_true rfl) (hts (.fieldLink RX6 12 "DeadTimeLoop" "settings" "LDeadTimeLoop$Settings;") (List.mem_of_getElem? (i := 2) rfl)) (fun _ h9 => h9) rfl dX6_setParameter_32 ?_
    refine lv_iload_n hx hb dX6_setParameter_35 rfl (lv_at hl 2 rfl) ?_
    refine lv_iload_n hx hb dX6_setParameter_36 rfl (lv_at hl 3 rfl) ?_
    obtain ⟨u_37, eu_37⟩ : ∃ z : Sett, z = fSet (xSet x) k v := ⟨_, rfl⟩
    have hM_37 : Cv Γ l yX3_set wsX3_set rm_X3_set [.ref (a 1), .int k, .int v] (setW Γ a 1 (xSet x)) (setW Γ a 1 u_37) := by rw [eu_37]; exact c_X3_set Γ l a 1 (xSet x) k v
    refine ca_Vv hh hl.1 hM_37 (cwV 2 hts gX6_setParameter_X3_set rfl rfl rfl (by decide +kernel) ⟨(Nat.le_of_ble_eq_true rfl), (Nat.le_of_ble_eq_true rfl)⟩) (As := [.int k, .int v]) (rest := []) rfl dX6_setParameter_37 rfl (Nat.le_of_ble_eq_true rfl) hP hD hS [1, 2] rfl (xB_at_settings Γ a _) (q0 := 1) (ci := 3) rfl rfl rfl 2 rfl rfl (wf := xW Γ a (u_37, u_28, (xTxt x), (xLoop x), (xFst x), (xSnd x), (xCnt x), (xTs x), (xIs x), (xTrial x), (xIdeal x))) (xB_up_settings Γ a _ _) (xW_addr _ _ _ _) ⟨Nat.zero_le _, Nat.zero_le _⟩ (fun H locs hP hD hS => ?_)
    refine lv_iload_n hx hb dX6_setParameter_40 rfl (lv_at hl 0 rfl) ?_
    exact re_i hQ ha hx hb hr hlk hAe hP hS dX6_setParameter_41 (by simp only [rSetParameter, c_5, if_true, if_false]) (by simp only [gSetParameter, xPut_settings, xPut_changes, ← eu_28, ← eu_37, c_5, if_true, if_false])
  · -- no
    refine lv_ldc hx hb hown (hts (.constant RX6 63 (-2000000001)) (List.mem_of_getElem? (i := 1) rfl)) dX6_setParameter_8 ?_
    exact re_i hQ ha hx hb hr hlk hAe hP hS dX6_setParameter_10 (by simp only [rSetParameter, c_5, if_true, if_false]) (by simp only [gSetParameter, xPut_settings, xPut_changes, c_5, if_true, if_false])
def rm_X6_parameter : Room := { frames := 2, cells := 0, slots := 0, locals := 41 }
theorem iX6_parameter_6 : ∀ w ∈ u_ws RX6 TX6 11, w ∈ wsX6_parameter := fun w h => (List.mem_cons_of_mem _ (List.mem_append_left _ (List.mem_append_right _ h)))
set_option maxHeartbeats 1000000 in
set_option maxRecDepth 100000 in
theorem c_X6_parameter (Γ : gT) (l : Launch) (a : Nat → Nat) (x : Xst) (k : Int32)  : Ci Γ l yX6_parameter wsX6_parameter rm_X6_parameter [.ref (a 0), .int k] (xW Γ a x) (rParameter x k) (xW Γ a x) := by
  refine Ci.of (cc := cX6_parameter) (own := RX6) (nL := 2) (ret := (some .int)) (by decide +kernel) rfl rfl (Nat.le_of_ble_eq_true rfl) ?_
  intro p e s m args below meth c A Q H locs ls ha hAe hQ hx hb hml hr hts hown hlk hP hK hD hS hA hG hl
  have hh : Hd Γ p s m args c cX6_parameter RX6 2 wsX6_parameter A := ⟨⟨hx, hb, hml, hown, hts⟩, hK, hA, hG⟩
  have hl : lv_has ls 2 [(0, .ref (a 0)), (1, .int k)] := hl
  refine lv_iload_n hx hb dX6_parameter_0 rfl (lv_at hl 1 rfl) ?_
  refine ca_Si hh hl.1 (c_X6_isParameter Γ l k) (va_cwS 1 hts gX6_parameter_X6_isParameter rfl rfl rfl (by decide +kernel) ⟨(Nat.le_of_ble_eq_true rfl), (Nat.le_of_ble_eq_true rfl)⟩) (As := [.int k]) (rest := []) rfl dX6_parameter_1 rfl (Nat.le_of_ble_eq_true rfl) hP hD hS ⟨Nat.zero_le _, Nat.zero_le _⟩ (fun H locs hP hS => ?_)
  refine lv_if_eq (tgt := 18) hx hb dX6_parameter_4 (by decide) (fun c_4 => ?_) (fun c_4 => ?_)
  · -- yes
    refine lv_ldc hx hb hown (hts (.constant RX6 63 (-2000000001)) (List.mem_of_getElem? (i := 2) rfl)) dX6_parameter_18 ?_
    exact re_i hQ ha hx hb hr hlk hAe hP hS dX6_parameter_20 (by skip; first | rfl | simp [rParameter, c_4]) (by skip; first | rfl | simp [rParameter, c_4])
  · -- no
    refine lv_aload_n hx hb dX6_parameter_7 rfl (lv_at hl 0 rfl) ?_
    refine va_get (D := gD Γ) (cl := vwCl) (tys := gTy Γ) (ci := 6) (v := .ref (a 1)) (C := RX6) (T := TX6) (N := 11) hx hb hts iX6_parameter_6 hown hK hP 0 rfl rfl 0 (Nat.le_of_ble_eq_true rfl) (hts (.fieldLink RX6 12 "DeadTimeLoop" "settings" "LDeadTimeLoop$Settings;") (List.mem_of_getElem? (i := 1) rfl)) (fun _ h9 => h9) rfl dX6_parameter_8 ?_
    refine lv_iload_n hx hb dX6_parameter_11 rfl (lv_at hl 1 rfl) ?_
    refine ca_Vi hh hl.1 (c_X3_get Γ l a 1 (xSet x) k) (cwV 1 hts gX6_parameter_X3_get rfl rfl rfl (by decide +kernel) ⟨(Nat.le_of_ble_eq_true rfl), (Nat.le_of_ble_eq_true rfl)⟩) (As := [.int k]) (rest := []) rfl dX6_parameter_12 rfl (Nat.le_of_ble_eq_true rfl) hP hD hS [1, 2] rfl (xB_at_settings Γ a _) (q0 := 1) (ci := 3) rfl rfl rfl 2 rfl rfl (wf := xW Γ a x) (xB_up_settings Γ a _ _) (xW_addr _ _ _ _) ⟨Nat.zero_le _, Nat.zero_le _⟩ (fun H locs hP hD hS => ?_)
    refine lv_goto (tgt := 20) hx hb dX6_parameter_15 (by decide) ?_
    exact re_i hQ ha hx hb hr hlk hAe hP hS dX6_parameter_20 (by skip; first | rfl | simp [rParameter, c_4]) (by skip; first | rfl | simp [rParameter, c_4])
def rm_X6_undo : Room := { frames := 2, cells := 0, slots := 0, locals := 49 }
theorem iX6_undo_0 : ∀ w ∈ u_ws RX0 TX0 2, w ∈ wsX6_undo := fun w h => (List.mem_cons_of_mem _ (List.mem_append_left _ (List.mem_append_right _ h)))
theorem iX6_undo_6 : ∀ w ∈ u_ws RX6 TX6 11, w ∈ wsX6_undo := fun w h => (List.mem_cons_of_mem _ (List.mem_append_left _ (List.mem_append_left _ (List.mem_append_right _ h))))
set_option maxHeartbeats 1000000 in
set_option maxRecDepth 100000 in
theorem c_X6_undo (Γ : gT) (l : Launch) (a : Nat → Nat) (x : Xst) (hc : cOk (xChg x)) : Ci Γ l yX6_undo wsX6_undo rm_X6_undo [.ref (a 0)] (xW Γ a x) (rUndo x) (xW Γ a (gUndo x)) := by
  refine Ci.of (cc := cX6_undo) (own := RX6) (nL := 1) (ret := (some .int)) (by decide +kernel) rfl rfl (Nat.le_of_ble_eq_true rfl) ?_
  intro p e s m args below meth c A Q H locs ls ha hAe hQ hx hb hml hr hts hown hlk hP hK hD hS hA hG hl
  have hh : Hd Γ p s m args c cX6_undo RX6 1 wsX6_undo A := ⟨⟨hx, hb, hml, hown, hts⟩, hK, hA, hG⟩
  have hl : lv_has ls 1 [(0, .ref (a 0))] := hl
  refine lv_aload_n hx hb dX6_undo_0 rfl (lv_at hl 0 rfl) ?_
  refine va_get (D := gD Γ) (cl := vwCl) (tys := gTy Γ) (ci := 6) (v := .ref (a 3)) (C := RX6) (T := TX6) (N := 11) hx hb hts iX6_undo_6 hown hK hP 0 rfl rfl 1 (Nat.le_of_ble_eq_true rfl) (hts (.fieldLink RX6 19 "DeadTimeLoop" "changes" "LDeadTimeLoop$Changes;") (List.mem_of_getElem? (i := 1) rfl)) (fun _ h9 => h9) rfl dX6_undo_1 ?_
  refine va_get (D := gD Γ) (cl := vwCl) (tys := gTy Γ) (ci := 0) (v := .int (cCnt (xChg x))) (C := RX0) (T := TX0) (N := 2) hx hb hts iX6_undo_0 hown hK hP 3 rfl rfl 1 (Nat.le_of_ble_eq_true rfl) (hts (.fieldLink RX6 95 "DeadTimeLoop$Changes" "count" "I") (List.mem_of_getElem? (i := 2) rfl)) (fun _ h9 => h9) rfl dX6_undo_4 ?_
  refine lv_if_ne (tgt := 13) hx hb dX6_undo_7 (by decide) (fun c_7 => ?_) (fun c_7 => ?_)
  · -- yes
    refine lv_aload_n hx hb dX6_undo_13 rfl (lv_at hl 0 rfl) ?_
    refine va_get (D := gD Γ) (cl := vwCl) (tys := gTy Γ) (ci := 6) (v := .ref (a 3)) (C := RX6) (T := TX6) (N := 11) hx hb hts iX6_undo_6 hown hK hP 0 rfl rfl 1 (Nat.le_of_ble_eq_true rfl) (hts (.fieldLink RX6 19 "DeadTimeLoop" "changes" "LDeadTimeLoop$Changes;") (List.mem_of_getElem? (i := 1) rfl)) (fun _ h9 => h9) rfl dX6_undo_14 ?_
    refine lv_aload_n hx hb dX6_undo_17 rfl (lv_at hl 0 rfl) ?_
    refine va_get (D := gD Γ) (cl := vwCl) (tys := gTy Γ) (ci := 6) (v := .ref (a 1)) (C := RX6) (T := TX6) (N := 11) hx hb hts iX6_undo_6 hown hK hP 0 rfl rfl 0 (Nat.le_of_ble_eq_true rfl) (hts (.fieldLink RX6 12 "DeadTimeLoop" "settings" "LDeadTimeLoop$Settings;") (List.mem_of_getElem? (i := 4) rfl)) (fun _ h9 => h9) rfl dX6_undo_18 ?_
    obtain ⟨u_21, eu_21⟩ : ∃ z : Chg, z = cBackC (xChg x) := ⟨_, rfl⟩
    obtain ⟨u_21b, eu_21b⟩ : ∃ z : Sett, z = cBackV (xChg x) (xSet x) := ⟨_, rfl⟩
    have hM_21 : Cv Γ l yX0_takeBack wsX0_takeBack rm_X0_takeBack [.ref (a 3), .ref (a 1)] (chgW Γ a 3 (xChg x) ++ setW Γ a 1 (xSet x)) (chgW Γ a 3 u_21 ++ setW Γ a 1 u_21b) := by rw [eu_21, eu_21b]; exact c_X0_takeBack Γ l a 3 a 1 (xChg x) (xSet x) hc
    refine ca_Vv hh hl.1 hM_21 (cwV 1 hts gX6_undo_X0_takeBack rfl rfl rfl (by decide +kernel) ⟨(Nat.le_of_ble_eq_true rfl), (Nat.le_of_ble_eq_true rfl)⟩) (As := [.ref (a 1)]) (rest := []) rfl dX6_undo_21 rfl (Nat.le_of_ble_eq_true rfl) hP hD hS ([3, 4, 5, 6, 7, 8, 9, 10] ++ [1, 2]) rfl (map_app2 (xB_at_changes Γ a _) (xB_at_settings Γ a _)) (q0 := 3) (ci := 0) rfl rfl rfl 10 rfl rfl (wf := xW Γ a (u_21b, u_21, (xTxt x), (xLoop x), (xFst x), (xSnd x), (xCnt x), (xTs x), (xIs x), (xTrial x), (xIdeal x))) ((va_upd_app [3, 4, 5, 6, 7, 8, 9, 10] _ _ [1, 2] _ rfl).trans ((congrArg (fun z => va_upd z [1, 2] _) (xB_up_changes Γ a _ _)).trans (xB_up_settings Γ a _ _))) (xW_addr _ _ _ _) ⟨Nat.zero_le _, Nat.zero_le _⟩ (fun H locs hP hD hS => ?_)
    refine lv_aload_n hx hb dX6_undo_24 rfl (lv_at hl 0 rfl) ?_
    refine va_get (D := gD Γ) (cl := vwCl) (tys := gTy Γ) (ci := 6) (v := .ref (a 3)) (C := RX6) (T := TX6) (N := 11) hx hb hts iX6_undo_6 hown hK hP 0 rfl rfl 1 (Nat.le_of_ble_eq_true rfl) (hts (.fieldLink RX6 19 "DeadTimeLoop" "changes" "LDeadTimeLoop$Changes;") (List.mem_of_getElem? (i := 1) rfl)) (fun _ h9 => h9) rfl dX6_undo_25 ?_
    refine va_get (D := gD Γ) (cl := vwCl) (tys := gTy Γ) (ci := 0) (v := .int (cCnt u_21)) (C := RX0) (T := TX0) (N := 2) hx hb hts iX6_undo_0 hown hK hP 3 rfl rfl 1 (Nat.le_of_ble_eq_true rfl) (hts (.fieldLink RX6 95 "DeadTimeLoop$Changes" "count" "I") (List.mem_of_getElem? (i := 2) rfl)) (fun _ h9 => h9) rfl dX6_undo_28 ?_
    exact re_i hQ ha hx hb hr hlk hAe hP hS dX6_undo_31 (by simp only [rUndo, ← eu_21, ← eu_21b, c_7, if_true, if_false]) (by simp only [gUndo, xPut_settings, xPut_changes, ← eu_21, ← eu_21b, c_7, if_true, if_false])
  · -- no
    refine lv_ldc hx hb hown (hts (.constant RX6 98 (-2000000002)) (List.mem_of_getElem? (i := 3) rfl)) dX6_undo_10 ?_
    exact re_i hQ ha hx hb hr hlk hAe hP hS dX6_undo_12 (by simp only [rUndo, c_7, if_true, if_false]) (by simp only [gUndo, xPut_settings, xPut_changes, c_7, if_true, if_false])
def rm_X6_setSetpoint : Room := { frames := 2, cells := 0, slots := 0, locals := 43 }
theorem iX6_setSetpoint_6 : ∀ w ∈ u_ws RX6 TX6 11, w ∈ wsX6_setSetpoint := fun w h => (List.mem_cons_of_mem _ (List.mem_append_left _ (List.mem_append_left _ (List.mem_append_right _ h))))
set_option maxHeartbeats 1000000 in
set_option maxRecDepth 100000 in
theorem c_X6_setSetpoint (Γ : gT) (l : Launch) (a : Nat → Nat) (x : Xst) (v : Int32)  : Ci Γ l yX6_setSetpoint wsX6_setSetpoint rm_X6_setSetpoint [.ref (a 0), .int v] (xW Γ a x) (rSetSetpoint x v) (xW Γ a (gSetSetpoint x v)) := by
  refine Ci.of (cc := cX6_setSetpoint) (own := RX6) (nL := 2) (ret := (some .int)) (by decide +kernel) rfl rfl (Nat.le_of_ble_eq_true rfl) ?_
  intro p e s m args below meth c A Q H locs ls ha hAe hQ hx hb hml hr hts hown hlk hP hK hD hS hA hG hl
  have hh : Hd Γ p s m args c cX6_setSetpoint RX6 2 wsX6_setSetpoint A := ⟨⟨hx, hb, hml, hown, hts⟩, hK, hA, hG⟩
  have hl : lv_has ls 2 [(0, .ref (a 0)), (1, .int v)] := hl
  refine lv_iload_n hx hb dX6_setSetpoint_0 rfl (lv_at hl 1 rfl) ?_
  refine ca_Si hh hl.1 (c_X6_isLevel Γ l v) (va_cwS 1 hts gX6_setSetpoint_X6_isLevel rfl rfl rfl (by decide +kernel) ⟨(Nat.le_of_ble_eq_true rfl), (Nat.le_of_ble_eq_true rfl)⟩) (As := [.int v]) (rest := []) rfl dX6_setSetpoint_1 rfl (Nat.le_of_ble_eq_true rfl) hP hD hS ⟨Nat.zero_le _, Nat.zero_le _⟩ (fun H locs hP hS => ?_)
  refine lv_if_eq (tgt := 18) hx hb dX6_setSetpoint_4 (by decide) (fun c_4 => ?_) (fun c_4 => ?_)
  · -- yes
    refine lv_ldc hx hb hown (hts (.constant RX6 63 (-2000000001)) (List.mem_of_getElem? (i := 2) rfl)) dX6_setSetpoint_18 ?_
    exact re_i hQ ha hx hb hr hlk hAe hP hS dX6_setSetpoint_20 (by simp only [rSetSetpoint, c_4, if_true, if_false]) (by simp only [gSetSetpoint, xPut_loop, c_4, if_true, if_false])
  · -- no
    refine lv_aload_n hx hb dX6_setSetpoint_7 rfl (lv_at hl 0 rfl) ?_
    refine va_get (D := gD Γ) (cl := vwCl) (tys := gTy Γ) (ci := 6) (v := .ref (a 15)) (C := RX6) (T := TX6) (N := 11) hx hb hts iX6_setSetpoint_6 hown hK hP 0 rfl rfl 3 (Nat.le_of_ble_eq_true rfl) (hts (.fieldLink RX6 33 "DeadTimeLoop" "loop" "LDeadTimeLoop$Loop;") (List.mem_of_getElem? (i := 1) rfl)) (fun _ h9 => h9) rfl dX6_setSetpoint_8 ?_
    refine lv_iload_n hx hb dX6_setSetpoint_11 rfl (lv_at hl 1 rfl) ?_
    obtain ⟨u_12, eu_12⟩ : ∃ z : Lop, z = fSetR (xLoop x) v := ⟨_, rfl⟩
    have hM_12 : Ci Γ l yX1_changeSetpoint wsX1_changeSetpoint rm_X1_changeSetpoint [.ref (a 15), .int v] (lopW Γ a 15 (xLoop x)) (((lPres (xLoop x)) 0)) (lopW Γ a 15 u_12) := by rw [eu_12]; exact c_X1_changeSetpoint Γ l a 15 (xLoop x) v
    refine ca_Vi hh hl.1 hM_12 (cwV 1 hts gX6_setSetpoint_X1_changeSetpoint rfl rfl rfl (by decide +kernel) ⟨(Nat.le_of_ble_eq_true rfl), (Nat.le_of_ble_eq_true rfl)⟩) (As := [.int v]) (rest := []) rfl dX6_setSetpoint_12 rfl (Nat.le_of_ble_eq_true rfl) hP hD hS [15, 16, 17, 18, 19, 20, 21, 22, 23] rfl (xB_at_loop Γ a _) (q0 := 15) (ci := 1) rfl rfl rfl 9 rfl rfl (wf := xW Γ a ((xSet x), (xChg x), (xTxt x), u_12, (xFst x), (xSnd x), (xCnt x), (xTs x), (xIs x), (xTrial x), (xIdeal x))) (xB_up_loop Γ a _ _) (xW_addr _ _ _ _) ⟨Nat.zero_le _, Nat.zero_le _⟩ (fun H locs hP hD hS => ?_)
    refine lv_goto (tgt := 20) hx hb dX6_setSetpoint_15 (by decide) ?_
    exact re_i hQ ha hx hb hr hlk hAe hP hS dX6_setSetpoint_20 (by simp only [rSetSetpoint, ← eu_12, c_4, if_true, if_false]) (by simp only [gSetSetpoint, xPut_loop, ← eu_12, c_4, if_true, if_false])
def rm_X6_setLoad : Room := { frames := 1, cells := 0, slots := 0, locals := 20 }
theorem iX6_setLoad_1 : ∀ w ∈ u_ws RX1 TX1 9, w ∈ wsX6_setLoad := fun w h => (List.mem_cons_of_mem _ (List.mem_append_right _ h))
theorem iX6_setLoad_6 : ∀ w ∈ u_ws RX6 TX6 11, w ∈ wsX6_setLoad := fun w h => (List.mem_cons_of_mem _ (List.mem_append_left _ (List.mem_append_right _ h)))
set_option maxHeartbeats 1000000 in
set_option maxRecDepth 100000 in
theorem c_X6_setLoad (Γ : gT) (l : Launch) (a : Nat → Nat) (x : Xst) (v : Int32)  : Ci Γ l yX6_setLoad wsX6_setLoad rm_X6_setLoad [.ref (a 0), .int v] (xW Γ a x) (rSetLoad x v) (xW Γ a (gSetLoad x v)) := by
  refine Ci.of (cc := cX6_setLoad) (own := RX6) (nL := 3) (ret := (some .int)) (by decide +kernel) rfl rfl (Nat.le_of_ble_eq_true rfl) ?_
  intro p e s m args below meth c A Q H locs ls ha hAe hQ hx hb hml hr hts hown hlk hP hK hD hS hA hG hl
  have hh : Hd Γ p s m args c cX6_setLoad RX6 3 wsX6_setLoad A := ⟨⟨hx, hb, hml, hown, hts⟩, hK, hA, hG⟩
  have hl : lv_has ls 3 [(0, .ref (a 0)), (1, .int v)] := hl
  refine lv_iload_n hx hb dX6_setLoad_0 rfl (lv_at hl 1 rfl) ?_
  refine ca_Si hh hl.1 (c_X6_isLevel Γ l v) (va_cwS 1 hts gX6_setLoad_X6_isLevel rfl rfl rfl (by decide +kernel) ⟨(Nat.le_of_ble_eq_true rfl), (Nat.le_of_ble_eq_true rfl)⟩) (As := [.int v]) (rest := []) rfl dX6_setLoad_1 rfl (Nat.le_of_ble_eq_true rfl) hP hD hS ⟨Nat.zero_le _, Nat.zero_le _⟩ (fun H locs hP hS => ?_)
  refine lv_if_ne (tgt := 10) hx hb dX6_setLoad_4 (by decide) (fun c_4 => ?_) (fun c_4 => ?_)
  · -- yes
    refine lv_aload_n hx hb dX6_setLoad_10 rfl (lv_at hl 0 rfl) ?_
    refine va_get (D := gD Γ) (cl := vwCl) (tys := gTy Γ) (ci := 6) (v := .ref (a 15)) (C := RX6) (T := TX6) (N := 11) hx hb hts iX6_setLoad_6 hown hK hP 0 rfl rfl 3 (Nat.le_of_ble_eq_true rfl) (hts (.fieldLink RX6 33 "DeadTimeLoop" "loop" "LDeadTimeLoop$Loop;") (List.mem_of_getElem? (i := 2) rfl)) (fun _ h9 => h9) rfl dX6_setLoad_11 ?_
    refine va_get (D := gD Γ) (cl := vwCl) (tys := gTy Γ) (ci := 1) (v := .int (lLoad (xLoop x))) (C := RX1) (T := TX1) (N := 9) hx hb hts iX6_setLoad_1 hown hK hP 15 rfl rfl 1 (Nat.le_of_ble_eq_true rfl) (hts (.fieldLink RX6 108 "DeadTimeLoop$Loop" "load" "I") (List.mem_of_getElem? (i := 3) rfl)) (fun _ h9 => h9) rfl dX6_setLoad_14 ?_
    refine lv_istore_n (lv' := [(2, .int (lLoad (xLoop x))), (0, .ref (a 0)), (1, .int v)]) hx hb dX6_setLoad_17 rfl hl (by decide) rfl (fun ls hl => ?_)
    refine lv_aload_n hx hb dX6_setLoad_18 rfl (lv_at hl 1 rfl) ?_
    refine va_get (D := gD Γ) (cl := vwCl) (tys := gTy Γ) (ci := 6) (v := .ref (a 15)) (C := RX6) (T := TX6) (N := 11) hx hb hts iX6_setLoad_6 hown hK hP 0 rfl rfl 3 (Nat.le_of_ble_eq_true rfl) (hts (.fieldLink RX6 33 "DeadTimeLoop" "loop" "LDeadTimeLoop$Loop;") (List.mem_of_getElem? (i := 2) rfl)) (fun _ h9 => h9) rfl dX6_setLoad_19 ?_
    refine lv_iload_n hx hb dX6_setLoad_22 rfl (lv_at hl 2 rfl) ?_
    refine va_put (D := gD Γ) (cl := vwCl) (tys := gTy Γ) (ci := 1) (v := .int v) (ty := tyX1 1) (C := RX1) (T := TX1) (N := 9) hx hb hts iX6_setLoad_1 tyX1 tyX1_ok nmX1 hown hK hP hD hS 15 rfl rfl 1 (Nat.le_of_ble_eq_true rfl) (hts (.fieldLink RX6 108 "DeadTimeLoop$Loop" "load" "I") (List.mem_of_getElem? (i := 3) rfl)) (fun _ h9 => h9) rfl (tyX1_ok 1 (Nat.le_of_ble_eq_true rfl)) rfl rfl (Nat.le_of_ble_eq_true rfl) dX6_setLoad_23 (fun H locs hP hD hS => ?_)
    have hP : va_P (gD Γ) vwCl (xW Γ a ((xSet x), (xChg x), (xTxt x), ((lNow (xLoop x)), v, (lSeed (xLoop x)), (lBad (xLoop x)), (lGood (xLoop x)), (lPres (xLoop x)), (lRecs (xLoop x)), (lSec (xLoop x)), (lWat (xLoop x))), (xFst x), (xSnd x), (xCnt x), (xTs x), (xIs x), (xTrial x), (xIdeal x))) H := hP
    have hD : va_D A (xW Γ a ((xSet x), (xChg x), (xTxt x), ((lNow (xLoop x)), v, (lSeed (xLoop x)), (lBad (xLoop x)), (lGood (xLoop x)), (lPres (xLoop x)), (lRecs (xLoop x)), (lSec (xLoop x)), (lWat (xLoop x))), (xFst x), (xSnd x), (xCnt x), (xTs x), (xIs x), (xTrial x), (xIdeal x))) := hD
    refine lv_iload_n hx hb dX6_setLoad_26 rfl (lv_at hl 0 rfl) ?_
    exact re_i hQ ha hx hb hr hlk hAe hP hS dX6_setLoad_27 (by simp only [rSetLoad, c_4, if_true, if_false]) (by simp only [gSetLoad, xPut_loop, lPut_load, c_4, if_true, if_false])
  · -- no
    refine lv_ldc hx hb hown (hts (.constant RX6 63 (-2000000001)) (List.mem_of_getElem? (i := 1) rfl)) dX6_setLoad_7 ?_
    exact re_i hQ ha hx hb hr hlk hAe hP hS dX6_setLoad_9 (by simp only [rSetLoad, c_4, if_true, if_false]) (by simp only [gSetLoad, xPut_loop, lPut_load, c_4, if_true, if_false])
def rm_X6_setSeed : Room := { frames := 0, cells := 0, slots := 0, locals := 0 }
theorem iX6_setSeed_1 : ∀ w ∈ u_ws RX1 TX1 9, w ∈ wsX6_setSeed := fun w h => (List.mem_cons_of_mem _ (List.mem_append_right _ h))
theorem iX6_setSeed_6 : ∀ w ∈ u_ws RX6 TX6 11, w ∈ wsX6_setSeed := fun w h => (List.mem_cons_of_mem _ (List.mem_append_left _ (List.mem_append_right _ h)))
set_option maxHeartbeats 1000000 in
set_option maxRecDepth 100000 in
theorem c_X6_setSeed (Γ : gT) (l : Launch) (a : Nat → Nat) (x : Xst) (v : Int32)  : Ci Γ l yX6_setSeed wsX6_setSeed rm_X6_setSeed [.ref (a 0), .int v] (xW Γ a x) (rSetSeed x v) (xW Γ a (gSetSeed x v)) := by
  refine Ci.of (cc := cX6_setSeed) (own := RX6) (nL := 3) (ret := (some .int)) (by decide +kernel) rfl rfl (Nat.le_of_ble_eq_true rfl) ?_
  intro p e s m args below meth c A Q H locs ls ha hAe hQ hx hb hml hr hts hown hlk hP hK hD hS hA hG hl
  have hh : Hd Γ p s m args c cX6_setSeed RX6 3 wsX6_setSeed A := ⟨⟨hx, hb, hml, hown, hts⟩, hK, hA, hG⟩
  have hl : lv_has ls 3 [(0, .ref (a 0)), (1, .int v)] := hl
  refine lv_iload_n hx hb dX6_setSeed_0 rfl (lv_at hl 1 rfl) ?_
  refine lv_if_lt (tgt := 11) hx hb dX6_setSeed_1 (by decide) (fun c_1 => ?_) (fun c_1 => ?_)
  · -- yes
    refine lv_ldc hx hb hown (hts (.constant RX6 63 (-2000000001)) (List.mem_of_getElem? (i := 1) rfl)) dX6_setSeed_11 ?_
    exact re_i hQ ha hx hb hr hlk hAe hP hS dX6_setSeed_13 (by simp only [rSetSeed, c_1, if_true, if_false]) (by simp only [gSetSeed, xPut_loop, lPut_seed, c_1, if_true, if_false])
  · -- no
    refine lv_iload_n hx hb dX6_setSeed_4 rfl (lv_at hl 1 rfl) ?_
    refine lv_sipush (v := 9999) hx hb dX6_setSeed_5 (by decide) ?_
    refine lv_icmp_le (tgt := 14) hx hb dX6_setSeed_8 (by decide) (fun c_8 => ?_) (fun c_8 => ?_)
    · -- yes
      refine lv_aload_n hx hb dX6_setSeed_14 rfl (lv_at hl 0 rfl) ?_
      refine va_get (D := gD Γ) (cl := vwCl) (tys := gTy Γ) (ci := 6) (v := .ref (a 15)) (C := RX6) (T := TX6) (N := 11) hx hb hts iX6_setSeed_6 hown hK hP 0 rfl rfl 3 (Nat.le_of_ble_eq_true rfl) (hts (.fieldLink RX6 33 "DeadTimeLoop" "loop" "LDeadTimeLoop$Loop;") (List.mem_of_getElem? (i := 2) rfl)) (fun _ h9 => h9) rfl dX6_setSeed_15 ?_
      refine va_get (D := gD Γ) (cl := vwCl) (tys := gTy Γ) (ci := 1) (v := .int (lSeed (xLoop x))) (C := RX1) (T := TX1) (N := 9) hx hb hts iX6_setSeed_1 hown hK hP 15 rfl rfl 2 (Nat.le_of_ble_eq_true rfl) (hts (.fieldLink RX6 111 "DeadTimeLoop$Loop" "seed" "I") (List.mem_of_getElem? (i := 3) rfl)) (fun _ h9 => h9) rfl dX6_setSeed_18 ?_
      refine lv_istore_n (lv' := [(2, .int (lSeed (xLoop x))), (0, .ref (a 0)), (1, .int v)]) hx hb dX6_setSeed_21 rfl hl (by decide) rfl (fun ls hl => ?_)
      refine lv_aload_n hx hb dX6_setSeed_22 rfl (lv_at hl 1 rfl) ?_
      refine va_get (D := gD Γ) (cl := vwCl) (tys := gTy Γ) (ci := 6) (v := .ref (a 15)) (C := RX6) (T := TX6) (N := 11) hx hb hts iX6_setSeed_6 hown hK hP 0 rfl rfl 3 (Nat.le_of_ble_eq_true rfl) (hts (.fieldLink RX6 33 "DeadTimeLoop" "loop" "LDeadTimeLoop$Loop;") (List.mem_of_getElem? (i := 2) rfl)) (fun _ h9 => h9) rfl dX6_setSeed_23 ?_
      refine lv_iload_n hx hb dX6_setSeed_26 rfl (lv_at hl 2 rfl) ?_
      refine va_put (D := gD Γ) (cl := vwCl) (tys := gTy Γ) (ci := 1) (v := .int v) (ty := tyX1 2) (C := RX1) (T := TX1) (N := 9) hx hb hts iX6_setSeed_1 tyX1 tyX1_ok nmX1 hown hK hP hD hS 15 rfl rfl 2 (Nat.le_of_ble_eq_true rfl) (hts (.fieldLink RX6 111 "DeadTimeLoop$Loop" "seed" "I") (List.mem_of_getElem? (i := 3) rfl)) (fun _ h9 => h9) rfl (tyX1_ok 2 (Nat.le_of_ble_eq_true rfl)) rfl rfl (Nat.le_of_ble_eq_true rfl) dX6_setSeed_27 (fun H locs hP hD hS => ?_)
      have hP : va_P (gD Γ) vwCl (xW Γ a ((xSet x), (xChg x), (xTxt x), ((lNow (xLoop x)), (lLoad (xLoop x)), v, (lBad (xLoop x)), (lGood (xLoop x)), (lPres (xLoop x)), (lRecs (xLoop x)), (lSec (xLoop x)), (lWat (xLoop x))), (xFst x), (xSnd x), (xCnt x), (xTs x), (xIs x), (xTrial x), (xIdeal x))) H := hP
      have hD : va_D A (xW Γ a ((xSet x), (xChg x), (xTxt x), ((lNow (xLoop x)), (lLoad (xLoop x)), v, (lBad (xLoop x)), (lGood (xLoop x)), (lPres (xLoop x)), (lRecs (xLoop x)), (lSec (xLoop x)), (lWat (xLoop x))), (xFst x), (xSnd x), (xCnt x), (xTs x), (xIs x), (xTrial x), (xIdeal x))) := hD
      refine lv_iload_n hx hb dX6_setSeed_30 rfl (lv_at hl 0 rfl) ?_
      exact re_i hQ ha hx hb hr hlk hAe hP hS dX6_setSeed_31 (by simp only [rSetSeed, c_1, c_8, if_true, if_false]) (by simp only [gSetSeed, xPut_loop, lPut_seed, c_1, c_8, if_true, if_false])
    · -- no
      refine lv_ldc hx hb hown (hts (.constant RX6 63 (-2000000001)) (List.mem_of_getElem? (i := 1) rfl)) dX6_setSeed_11 ?_
      exact re_i hQ ha hx hb hr hlk hAe hP hS dX6_setSeed_13 (by simp only [rSetSeed, c_1, c_8, if_true, if_false]) (by simp only [gSetSeed, xPut_loop, lPut_seed, c_1, c_8, if_true, if_false])
def rm_X6_type : Room := { frames := 1, cells := 0, slots := 0, locals := 21 }
theorem iX6_type_4 : ∀ w ∈ u_ws RX4 TX4 5, w ∈ wsX6_type := fun w h => (List.mem_cons_of_mem _ (List.mem_append_right _ h))
theorem iX6_type_6 : ∀ w ∈ u_ws RX6 TX6 11, w ∈ wsX6_type := fun w h => (List.mem_cons_of_mem _ (List.mem_append_left _ (List.mem_append_right _ h)))
set_option maxHeartbeats 1000000 in
set_option maxRecDepth 100000 in
theorem c_X6_type (Γ : gT) (l : Launch) (a : Nat → Nat) (x : Xst) (k : Int32) (hl0 : ¬ tLen (xTxt x) < 0) : Ci Γ l yX6_type wsX6_type rm_X6_type [.ref (a 0), .int k] (xW Γ a x) (rType x k) (xW Γ a (gType x k)) := by
  refine Ci.of (cc := cX6_type) (own := RX6) (nL := 2) (ret := (some .int)) (by decide +kernel) rfl rfl (Nat.le_of_ble_eq_true rfl) ?_
  intro p e s m args below meth c A Q H locs ls ha hAe hQ hx hb hml hr hts hown hlk hP hK hD hS hA hG hl
  have hh : Hd Γ p s m args c cX6_type RX6 2 wsX6_type A := ⟨⟨hx, hb, hml, hown, hts⟩, hK, hA, hG⟩
  have hl : lv_has ls 2 [(0, .ref (a 0)), (1, .int k)] := hl
  refine lv_iload_n hx hb dX6_type_0 rfl (lv_at hl 1 rfl) ?_
  refine lv_bipush (v := 32) hx hb dX6_type_1 (by decide) ?_
  refine lv_icmp_lt (tgt := 12) hx hb dX6_type_3 (by decide) (fun c_3 => ?_) (fun c_3 => ?_)
  · -- yes
    refine lv_ldc hx hb hown (hts (.constant RX6 63 (-2000000001)) (List.mem_of_getElem? (i := 1) rfl)) dX6_type_12 ?_
    exact re_i hQ ha hx hb hr hlk hAe hP hS dX6_type_14 (by simp only [rType, c_3, if_true, if_false]) (by simp only [gType, xPut_text, c_3, if_true, if_false])
  · -- no
    refine lv_iload_n hx hb dX6_type_6 rfl (lv_at hl 1 rfl) ?_
    refine lv_bipush (v := 126) hx hb dX6_type_7 (by decide) ?_
    refine lv_icmp_le (tgt := 15) hx hb dX6_type_9 (by decide) (fun c_9 => ?_) (fun c_9 => ?_)
    · -- yes
      refine lv_aload_n hx hb dX6_type_15 rfl (lv_at hl 0 rfl) ?_
      refine va_get (D := gD Γ) (cl := vwCl) (tys := gTy Γ) (ci := 6) (v := .ref (a 11)) (C := RX6) (T := TX6) (N := 11) hx hb hts iX6_type_6 hown hK hP 0 rfl rfl 2 (Nat.le_of_ble_eq_true rfl) (hts (.fieldLink RX6 26 "DeadTimeLoop" "text" "LDeadTimeLoop$Text;") (List.mem_of_getElem? (i := 2) rfl)) (fun _ h9 => h9) rfl dX6_type_16 ?_
      refine lv_iload_n hx hb dX6_type_19 rfl (lv_at hl 1 rfl) ?_
      refine lv_i2c (v := k) hx hb dX6_type_20 (i2c_id c_3 c_9) ?_
      obtain ⟨u_21, eu_21⟩ : ∃ z : Txt, z = tApp (xTxt x) k := ⟨_, rfl⟩
      have hM_21 : Ci Γ l yX4_append wsX4_append rm_X4_append [.ref (a 11), .int k] (txtW Γ a 11 (xTxt x)) (tAppR (tLen (xTxt x))) (txtW Γ a 11 u_21) := by rw [eu_21]; exact c_X4_append Γ l a 11 (xTxt x) k hl0 (nar_ch c_3 c_9)
      refine ca_Vi hh hl.1 hM_21 (cwV 1 hts gX6_type_X4_append rfl rfl rfl (by decide +kernel) ⟨(Nat.le_of_ble_eq_true rfl), (Nat.le_of_ble_eq_true rfl)⟩) (As := [.int k]) (rest := []) rfl dX6_type_21 rfl (Nat.le_of_ble_eq_true rfl) hP hD hS [11, 12, 13, 14] rfl (xB_at_text Γ a _) (q0 := 11) (ci := 4) rfl rfl rfl 4 rfl rfl (wf := xW Γ a ((xSet x), (xChg x), u_21, (xLoop x), (xFst x), (xSnd x), (xCnt x), (xTs x), (xIs x), (xTrial x), (xIdeal x))) (xB_up_text Γ a _ _) (xW_addr _ _ _ _) ⟨Nat.zero_le _, Nat.zero_le _⟩ (fun H locs hP hD hS => ?_)
      refine lv_if_eq (tgt := 37) hx hb dX6_type_24 (by decide) (fun c_24 => ?_) (fun c_24 => ?_)
      · -- yes
        refine lv_ldc hx hb hown (hts (.constant RX6 120 (-2000000003)) (List.mem_of_getElem? (i := 4) rfl)) dX6_type_37 ?_
        exact re_i hQ ha hx hb hr hlk hAe hP hS dX6_type_39 (by simp only [rType, ← eu_21, c_3, c_9, c_24, if_true, if_false]) (by simp only [gType, xPut_text, ← eu_21, c_3, c_9, c_24, if_true, if_false])
      · -- no
        refine lv_aload_n hx hb dX6_type_27 rfl (lv_at hl 0 rfl) ?_
        refine va_get (D := gD Γ) (cl := vwCl) (tys := gTy Γ) (ci := 6) (v := .ref (a 11)) (C := RX6) (T := TX6) (N := 11) hx hb hts iX6_type_6 hown hK hP 0 rfl rfl 2 (Nat.le_of_ble_eq_true rfl) (hts (.fieldLink RX6 26 "DeadTimeLoop" "text" "LDeadTimeLoop$Text;") (List.mem_of_getElem? (i := 2) rfl)) (fun _ h9 => h9) rfl dX6_type_28 ?_
        refine va_get (D := gD Γ) (cl := vwCl) (tys := gTy Γ) (ci := 4) (v := .int (tLen u_21)) (C := RX4) (T := TX4) (N := 5) hx hb hts iX6_type_4 hown hK hP 11 rfl rfl 3 (Nat.le_of_ble_eq_true rfl) (hts (.fieldLink RX6 118 "DeadTimeLoop$Text" "length" "I") (List.mem_of_getElem? (i := 3) rfl)) (fun _ h9 => h9) rfl dX6_type_31 ?_
        refine lv_goto (tgt := 39) hx hb dX6_type_34 (by decide) ?_
        exact re_i hQ ha hx hb hr hlk hAe hP hS dX6_type_39 (by simp only [rType, ← eu_21, c_3, c_9, c_24, if_true, if_false]) (by simp only [gType, xPut_text, ← eu_21, c_3, c_9, c_24, if_true, if_false])
    · -- no
      refine lv_ldc hx hb hown (hts (.constant RX6 63 (-2000000001)) (List.mem_of_getElem? (i := 1) rfl)) dX6_type_12 ?_
      exact re_i hQ ha hx hb hr hlk hAe hP hS dX6_type_14 (by simp only [rType, c_3, c_9, if_true, if_false]) (by simp only [gType, xPut_text, c_3, c_9, if_true, if_false])
def rm_X6_clearText : Room := { frames := 0, cells := 0, slots := 0, locals := 0 }
theorem iX6_clearText_4 : ∀ w ∈ u_ws RX4 TX4 5, w ∈ wsX6_clearText := fun w h => (List.mem_cons_of_mem _ (List.mem_append_right _ h))
theorem iX6_clearText_6 : ∀ w ∈ u_ws RX6 TX6 11, w ∈ wsX6_clearText := fun w h => (List.mem_cons_of_mem _ (List.mem_append_left _ (List.mem_append_right _ h)))
set_option maxHeartbeats 1000000 in
set_option maxRecDepth 100000 in
theorem c_X6_clearText (Γ : gT) (l : Launch) (a : Nat → Nat) (x : Xst)  : Ci Γ l yX6_clearText wsX6_clearText rm_X6_clearText [.ref (a 0)] (xW Γ a x) (tLen (xTxt x)) (xW Γ a (gClearText x)) := by
  refine Ci.of (cc := cX6_clearText) (own := RX6) (nL := 2) (ret := (some .int)) (by decide +kernel) rfl rfl (Nat.le_of_ble_eq_true rfl) ?_
  intro p e s m args below meth c A Q H locs ls ha hAe hQ hx hb hml hr hts hown hlk hP hK hD hS hA hG hl
  have hh : Hd Γ p s m args c cX6_clearText RX6 2 wsX6_clearText A := ⟨⟨hx, hb, hml, hown, hts⟩, hK, hA, hG⟩
  have hl : lv_has ls 2 [(0, .ref (a 0))] := hl
  refine lv_aload_n hx hb dX6_clearText_0 rfl (lv_at hl 0 rfl) ?_
  refine va_get (D := gD Γ) (cl := vwCl) (tys := gTy Γ) (ci := 6) (v := .ref (a 11)) (C := RX6) (T := TX6) (N := 11) hx hb hts iX6_clearText_6 hown hK hP 0 rfl rfl 2 (Nat.le_of_ble_eq_true rfl) (hts (.fieldLink RX6 26 "DeadTimeLoop" "text" "LDeadTimeLoop$Text;") (List.mem_of_getElem? (i := 1) rfl)) (fun _ h9 => h9) rfl dX6_clearText_1 ?_
  refine va_get (D := gD Γ) (cl := vwCl) (tys := gTy Γ) (ci := 4) (v := .int (tLen (xTxt x))) (C := RX4) (T := TX4) (N := 5) hx hb hts iX6_clearText_4 hown hK hP 11 rfl rfl 3 (Nat.le_of_ble_eq_true rfl) (hts (.fieldLink RX6 118 "DeadTimeLoop$Text" "length" "I") (List.mem_of_getElem? (i := 2) rfl)) (fun _ h9 => h9) rfl dX6_clearText_4 ?_
  refine lv_istore_n (lv' := [(1, .int (tLen (xTxt x))), (0, .ref (a 0))]) hx hb dX6_clearText_7 rfl hl (by decide) rfl (fun ls hl => ?_)
  refine lv_aload_n hx hb dX6_clearText_8 rfl (lv_at hl 1 rfl) ?_
  refine va_get (D := gD Γ) (cl := vwCl) (tys := gTy Γ) (ci := 6) (v := .ref (a 11)) (C := RX6) (T := TX6) (N := 11) hx hb hts iX6_clearText_6 hown hK hP 0 rfl rfl 2 (Nat.le_of_ble_eq_true rfl) (hts (.fieldLink RX6 26 "DeadTimeLoop" "text" "LDeadTimeLoop$Text;") (List.mem_of_getElem? (i := 1) rfl)) (fun _ h9 => h9) rfl dX6_clearText_9 ?_
  refine lv_iconst (v := 0) hx hb dX6_clearText_12 (by decide) ?_
  refine va_put (D := gD Γ) (cl := vwCl) (tys := gTy Γ) (ci := 4) (v := .int 0) (ty := tyX4 3) (C := RX4) (T := TX4) (N := 5) hx hb hts iX6_clearText_4 tyX4 tyX4_ok nmX4 hown hK hP hD hS 11 rfl rfl 3 (Nat.le_of_ble_eq_true rfl) (hts (.fieldLink RX6 118 "DeadTimeLoop$Text" "length" "I") (List.mem_of_getElem? (i := 2) rfl)) (fun _ h9 => h9) rfl (tyX4_ok 3 (Nat.le_of_ble_eq_true rfl)) rfl rfl (Nat.le_of_ble_eq_true rfl) dX6_clearText_13 (fun H locs hP hD hS => ?_)
  have hP : va_P (gD Γ) vwCl (xW Γ a ((xSet x), (xChg x), ((tChars (xTxt x)), (tTarg (xTxt x)), (tWant (xTxt x)), 0, (tCnt (xTxt x))), (xLoop x), (xFst x), (xSnd x), (xCnt x), (xTs x), (xIs x), (xTrial x), (xIdeal x))) H := hP
  have hD : va_D A (xW Γ a ((xSet x), (xChg x), ((tChars (xTxt x)), (tTarg (xTxt x)), (tWant (xTxt x)), 0, (tCnt (xTxt x))), (xLoop x), (xFst x), (xSnd x), (xCnt x), (xTs x), (xIs x), (xTrial x), (xIdeal x))) := hD
  refine lv_iload_n hx hb dX6_clearText_16 rfl (lv_at hl 0 rfl) ?_
  exact re_i hQ ha hx hb hr hlk hAe hP hS dX6_clearText_17 rfl rfl
def rm_X6_time : Room := { frames := 0, cells := 0, slots := 0, locals := 0 }
theorem iX6_time_1 : ∀ w ∈ u_ws RX1 TX1 9, w ∈ wsX6_time := fun w h => (List.mem_cons_of_mem _ (List.mem_append_right _ h))
theorem iX6_time_6 : ∀ w ∈ u_ws RX6 TX6 11, w ∈ wsX6_time := fun w h => (List.mem_cons_of_mem _ (List.mem_append_left _ (List.mem_append_right _ h)))
set_option maxHeartbeats 1000000 in
set_option maxRecDepth 100000 in
theorem c_X6_time (Γ : gT) (l : Launch) (a : Nat → Nat) (x : Xst)  : Ci Γ l yX6_time wsX6_time rm_X6_time [.ref (a 0)] (xW Γ a x) (lNow (xLoop x)) (xW Γ a x) := by
  refine Ci.of (cc := cX6_time) (own := RX6) (nL := 1) (ret := (some .int)) (by decide +kernel) rfl rfl (Nat.le_of_ble_eq_true rfl) ?_
  intro p e s m args below meth c A Q H locs ls ha hAe hQ hx hb hml hr hts hown hlk hP hK hD hS hA hG hl
  have hh : Hd Γ p s m args c cX6_time RX6 1 wsX6_time A := ⟨⟨hx, hb, hml, hown, hts⟩, hK, hA, hG⟩
  have hl : lv_has ls 1 [(0, .ref (a 0))] := hl
  refine lv_aload_n hx hb dX6_time_0 rfl (lv_at hl 0 rfl) ?_
  refine va_get (D := gD Γ) (cl := vwCl) (tys := gTy Γ) (ci := 6) (v := .ref (a 15)) (C := RX6) (T := TX6) (N := 11) hx hb hts iX6_time_6 hown hK hP 0 rfl rfl 3 (Nat.le_of_ble_eq_true rfl) (hts (.fieldLink RX6 33 "DeadTimeLoop" "loop" "LDeadTimeLoop$Loop;") (List.mem_of_getElem? (i := 1) rfl)) (fun _ h9 => h9) rfl dX6_time_1 ?_
  refine va_get (D := gD Γ) (cl := vwCl) (tys := gTy Γ) (ci := 1) (v := .int (lNow (xLoop x))) (C := RX1) (T := TX1) (N := 9) hx hb hts iX6_time_1 hown hK hP 15 rfl rfl 0 (Nat.le_of_ble_eq_true rfl) (hts (.fieldLink RX6 135 "DeadTimeLoop$Loop" "now" "I") (List.mem_of_getElem? (i := 2) rfl)) (fun _ h9 => h9) rfl dX6_time_4 ?_
  exact re_i hQ ha hx hb hr hlk hAe hP hS dX6_time_7 rfl rfl
def rm_X6_value : Room := { frames := 1, cells := 0, slots := 0, locals := 20 }
theorem iX6_value_1 : ∀ w ∈ u_ws RX1 TX1 9, w ∈ wsX6_value := fun w h => (List.mem_cons_of_mem _ (List.mem_append_right _ h))
theorem iX6_value_6 : ∀ w ∈ u_ws RX6 TX6 11, w ∈ wsX6_value := fun w h => (List.mem_cons_of_mem _ (List.mem_append_left _ (List.mem_append_right _ h)))
set_option maxHeartbeats 1000000 in
set_option maxRecDepth 100000 in
theorem c_X6_value (Γ : gT) (l : Launch) (a : Nat → Nat) (x : Xst) (s1 : Int32)  : Ci Γ l yX6_value wsX6_value rm_X6_value [.ref (a 0), .int s1] (xW Γ a x) (rValue x s1) (xW Γ a x) := by
  refine Ci.of (cc := cX6_value) (own := RX6) (nL := 2) (ret := (some .int)) (by decide +kernel) rfl rfl (Nat.le_of_ble_eq_true rfl) ?_
  intro p e s m args below meth c A Q H locs ls ha hAe hQ hx hb hml hr hts hown hlk hP hK hD hS hA hG hl
  have hh : Hd Γ p s m args c cX6_value RX6 2 wsX6_value A := ⟨⟨hx, hb, hml, hown, hts⟩, hK, hA, hG⟩
  have hl : lv_has ls 2 [(0, .ref (a 0)), (1, .int s1)] := hl
  refine lv_iload_n hx hb dX6_value_0 rfl (lv_at hl 1 rfl) ?_
  refine ca_Si hh hl.1 (c_X6_isSignal Γ l s1) (va_cwS 1 hts gX6_value_X6_isSignal rfl rfl rfl (by decide +kernel) ⟨(Nat.le_of_ble_eq_true rfl), (Nat.le_of_ble_eq_true rfl)⟩) (As := [.int s1]) (rest := []) rfl dX6_value_1 rfl (Nat.le_of_ble_eq_true rfl) hP hD hS ⟨Nat.zero_le _, Nat.zero_le _⟩ (fun H locs hP hS => ?_)
  refine lv_if_eq (tgt := 19) hx hb dX6_value_4 (by decide) (fun c_4 => ?_) (fun c_4 => ?_)
  · -- yes
    refine lv_ldc hx hb hown (hts (.constant RX6 63 (-2000000001)) (List.mem_of_getElem? (i := 3) rfl)) dX6_value_19 ?_
    exact re_i hQ ha hx hb hr hlk hAe hP hS dX6_value_21 (by simp only [rValue, c_4, if_true, if_false]) rfl
  · -- no
    refine lv_aload_n hx hb dX6_value_7 rfl (lv_at hl 0 rfl) ?_
    refine va_get (D := gD Γ) (cl := vwCl) (tys := gTy Γ) (ci := 6) (v := .ref (a 15)) (C := RX6) (T := TX6) (N := 11) hx hb hts iX6_value_6 hown hK hP 0 rfl rfl 3 (Nat.le_of_ble_eq_true rfl) (hts (.fieldLink RX6 33 "DeadTimeLoop" "loop" "LDeadTimeLoop$Loop;") (List.mem_of_getElem? (i := 1) rfl)) (fun _ h9 => h9) rfl dX6_value_8 ?_
    refine va_get (D := gD Γ) (cl := vwCl) (tys := gTy Γ) (ci := 1) (v := .ref (a 16)) (C := RX1) (T := TX1) (N := 9) hx hb hts iX6_value_1 hown hK hP 15 rfl rfl 5 (Nat.le_of_ble_eq_true rfl) (hts (.fieldLink RX6 145 "DeadTimeLoop$Loop" "present" "[I") (List.mem_of_getElem? (i := 2) rfl)) (fun _ h9 => h9) rfl dX6_value_11 ?_
    refine lv_iload_n hx hb dX6_value_14 rfl (lv_at hl 1 rfl) ?_
    refine ka_iald (D := gD Γ) (cl := vwCl) (tys := gTy Γ) hx hb hK hP 16 0 rfl rfl (s1.toNatClampNeg) (nI_of_in (fSig_in c_4) (by decide)) (in_lt (fSig_in c_4)) (by decide) (v := ((lPres (xLoop x)) s1.toNatClampNeg)) rfl dX6_value_15 ?_
    refine lv_goto (tgt := 21) hx hb dX6_value_16 (by decide) ?_
    exact re_i hQ ha hx hb hr hlk hAe hP hS dX6_value_21 (by simp only [rValue, c_4, if_true, if_false]) rfl
def rm_X6_recorded : Room := { frames := 2, cells := 0, slots := 0, locals := 44 }
theorem iX6_recorded_1 : ∀ w ∈ u_ws RX1 TX1 9, w ∈ wsX6_recorded := fun w h => (List.mem_cons_of_mem _ (List.mem_append_right _ h))
theorem iX6_recorded_6 : ∀ w ∈ u_ws RX6 TX6 11, w ∈ wsX6_recorded := fun w h => (List.mem_cons_of_mem _ (List.mem_append_left _ (List.mem_append_right _ h)))
set_option maxHeartbeats 1000000 in
set_option maxRecDepth 100000 in
theorem c_X6_recorded (Γ : gT) (l : Launch) (a : Nat → Nat) (x : Xst) (s1 : Int32) (ago : Int32)  : Ci Γ l yX6_recorded wsX6_recorded rm_X6_recorded [.ref (a 0), .int s1, .int ago] (xW Γ a x) (rRecorded x s1 ago) (xW Γ a x) := by
  refine Ci.of (cc := cX6_recorded) (own := RX6) (nL := 3) (ret := (some .int)) (by decide +kernel) rfl rfl (Nat.le_of_ble_eq_true rfl) ?_
  intro p e s m args below meth c A Q H locs ls ha hAe hQ hx hb hml hr hts hown hlk hP hK hD hS hA hG hl
  have hh : Hd Γ p s m args c cX6_recorded RX6 3 wsX6_recorded A := ⟨⟨hx, hb, hml, hown, hts⟩, hK, hA, hG⟩
  have hl : lv_has ls 3 [(0, .ref (a 0)), (1, .int s1), (2, .int ago)] := hl
  refine lv_iload_n hx hb dX6_recorded_0 rfl (lv_at hl 1 rfl) ?_
  refine ca_Si hh hl.1 (c_X6_isSignal Γ l s1) (va_cwS 1 hts gX6_recorded_X6_isSignal rfl rfl rfl (by decide +kernel) ⟨(Nat.le_of_ble_eq_true rfl), (Nat.le_of_ble_eq_true rfl)⟩) (As := [.int s1]) (rest := []) rfl dX6_recorded_1 rfl (Nat.le_of_ble_eq_true rfl) hP hD hS ⟨Nat.zero_le _, Nat.zero_le _⟩ (fun H locs hP hS => ?_)
  refine lv_if_eq (tgt := 17) hx hb dX6_recorded_4 (by decide) (fun c_4 => ?_) (fun c_4 => ?_)
  · -- yes
    refine lv_ldc hx hb hown (hts (.constant RX6 63 (-2000000001)) (List.mem_of_getElem? (i := 1) rfl)) dX6_recorded_17 ?_
    exact re_i hQ ha hx hb hr hlk hAe hP hS dX6_recorded_19 (by simp only [rRecorded, c_4, if_true, if_false]) rfl
  · -- no
    refine lv_iload_n hx hb dX6_recorded_7 rfl (lv_at hl 2 rfl) ?_
    refine lv_if_lt (tgt := 17) hx hb dX6_recorded_8 (by decide) (fun c_8 => ?_) (fun c_8 => ?_)
    · -- yes
      refine lv_ldc hx hb hown (hts (.constant RX6 63 (-2000000001)) (List.mem_of_getElem? (i := 1) rfl)) dX6_recorded_17 ?_
      exact re_i hQ ha hx hb hr hlk hAe hP hS dX6_recorded_19 (by simp only [rRecorded, c_4, c_8, if_true, if_false]) rfl
    · -- no
      refine lv_iload_n hx hb dX6_recorded_11 rfl (lv_at hl 2 rfl) ?_
      refine lv_bipush (v := 64) hx hb dX6_recorded_12 (by decide) ?_
      refine lv_icmp_lt (tgt := 20) hx hb dX6_recorded_14 (by decide) (fun c_14 => ?_) (fun c_14 => ?_)
      · -- yes
        refine lv_iload_n hx hb dX6_recorded_20 rfl (lv_at hl 2 rfl) ?_
        refine lv_aload_n hx hb dX6_recorded_21 rfl (lv_at hl 0 rfl) ?_
        refine va_get (D := gD Γ) (cl := vwCl) (tys := gTy Γ) (ci := 6) (v := .ref (a 15)) (C := RX6) (T := TX6) (N := 11) hx hb hts iX6_recorded_6 hown hK hP 0 rfl rfl 3 (Nat.le_of_ble_eq_true rfl) (hts (.fieldLink RX6 33 "DeadTimeLoop" "loop" "LDeadTimeLoop$Loop;") (List.mem_of_getElem? (i := 2) rfl)) (fun _ h9 => h9) rfl dX6_recorded_22 ?_
        refine va_get (D := gD Γ) (cl := vwCl) (tys := gTy Γ) (ci := 1) (v := .int (lNow (xLoop x))) (C := RX1) (T := TX1) (N := 9) hx hb hts iX6_recorded_1 hown hK hP 15 rfl rfl 0 (Nat.le_of_ble_eq_true rfl) (hts (.fieldLink RX6 135 "DeadTimeLoop$Loop" "now" "I") (List.mem_of_getElem? (i := 3) rfl)) (fun _ h9 => h9) rfl dX6_recorded_25 ?_
        refine lv_icmp_ge (tgt := 53) hx hb dX6_recorded_28 (by decide) (fun c_28 => ?_) (fun c_28 => ?_)
        · -- yes
          refine lv_ldc hx hb hown (hts (.constant RX6 94 (-2000000004)) (List.mem_of_getElem? (i := 4) rfl)) dX6_recorded_53 ?_
          exact re_i hQ ha hx hb hr hlk hAe hP hS dX6_recorded_55 (by simp only [rRecorded, c_4, c_8, c_14, c_28, if_true, if_false]) rfl
        · -- no
          refine lv_aload_n hx hb dX6_recorded_31 rfl (lv_at hl 0 rfl) ?_
          refine va_get (D := gD Γ) (cl := vwCl) (tys := gTy Γ) (ci := 6) (v := .ref (a 15)) (C := RX6) (T := TX6) (N := 11) hx hb hts iX6_recorded_6 hown hK hP 0 rfl rfl 3 (Nat.le_of_ble_eq_true rfl) (hts (.fieldLink RX6 33 "DeadTimeLoop" "loop" "LDeadTimeLoop$Loop;") (List.mem_of_getElem? (i := 2) rfl)) (fun _ h9 => h9) rfl dX6_recorded_32 ?_
          refine lv_iload_n hx hb dX6_recorded_35 rfl (lv_at hl 1 rfl) ?_
          refine lv_aload_n hx hb dX6_recorded_36 rfl (lv_at hl 0 rfl) ?_
          refine va_get (D := gD Γ) (cl := vwCl) (tys := gTy Γ) (ci := 6) (v := .ref (a 15)) (C := RX6) (T := TX6) (N := 11) hx hb hts iX6_recorded_6 hown hK hP 0 rfl rfl 3 (Nat.le_of_ble_eq_true rfl) (hts (.fieldLink RX6 33 "DeadTimeLoop" "loop" "LDeadTimeLoop$Loop;") (List.mem_of_getElem? (i := 2) rfl)) (fun _ h9 => h9) rfl dX6_recorded_37 ?_
          refine va_get (D := gD Γ) (cl := vwCl) (tys := gTy Γ) (ci := 1) (v := .int (lNow (xLoop x))) (C := RX1) (T := TX1) (N := 9) hx hb hts iX6_recorded_1 hown hK hP 15 rfl rfl 0 (Nat.le_of_ble_eq_true rfl) (hts (.fieldLink RX6 135 "DeadTimeLoop$Loop" "now" "I") (List.mem_of_getElem? (i := 3) rfl)) (fun _ h9 => h9) rfl dX6_recorded_40 ?_
          refine lv_iconst (v := 1) hx hb dX6_recorded_43 (by decide) ?_
          refine lv_isub hx hb dX6_recorded_44 ?_
          refine lv_iload_n hx hb dX6_recorded_45 rfl (lv_at hl 2 rfl) ?_
          refine lv_isub hx hb dX6_recorded_46 ?_
          refine ca_Vi hh hl.1 (c_X1_recordOf Γ l a 15 (xLoop x) s1 (((lNow (xLoop x)) - 1) - ago)) (cwV 2 hts gX6_recorded_X1_recordOf rfl rfl rfl (by decide +kernel) ⟨(Nat.le_of_ble_eq_true rfl), (Nat.le_of_ble_eq_true rfl)⟩) (As := [.int s1, .int (((lNow (xLoop x)) - 1) - ago)]) (rest := []) rfl dX6_recorded_47 rfl (Nat.le_of_ble_eq_true rfl) hP hD hS [15, 16, 17, 18, 19, 20, 21, 22, 23] rfl (xB_at_loop Γ a _) (q0 := 15) (ci := 1) rfl rfl rfl 9 rfl rfl (wf := xW Γ a x) (xB_up_loop Γ a _ _) (xW_addr _ _ _ _) ⟨Nat.zero_le _, Nat.zero_le _⟩ (fun H locs hP hD hS => ?_)
          refine lv_topi (fun r_47 er_47 => ?_)
          have er_47 : r_47 = (fRec (lNow (xLoop x)) (lRecs (xLoop x)) s1 (((lNow (xLoop x)) - 1) - ago)) := er_47
          refine lv_goto (tgt := 55) hx hb dX6_recorded_50 (by decide) ?_
          exact re_i hQ ha hx hb hr hlk hAe hP hS dX6_recorded_55 (by simp only [rRecorded, ← er_47, c_4, c_8, c_14, c_28, if_true, if_false]) rfl
      · -- no
        refine lv_ldc hx hb hown (hts (.constant RX6 63 (-2000000001)) (List.mem_of_getElem? (i := 1) rfl)) dX6_recorded_17 ?_
        exact re_i hQ ha hx hb hr hlk hAe hP hS dX6_recorded_19 (by simp only [rRecorded, c_4, c_8, c_14, if_true, if_false]) rfl
def rm_X6_restart : Room := { frames := 2, cells := 0, slots := 0, locals := 42 }
theorem iX6_restart_1 : ∀ w ∈ u_ws RX1 TX1 9, w ∈ wsX6_restart := fun w h => (List.mem_cons_of_mem _ (List.mem_append_left _ (List.mem_append_left _ (List.mem_append_right _ h))))
theorem iX6_restart_6 : ∀ w ∈ u_ws RX6 TX6 11, w ∈ wsX6_restart := fun w h => (List.mem_cons_of_mem _ (List.mem_append_left _ (List.mem_append_left _ (List.mem_append_left _ (List.mem_append_right _ h)))))
set_option maxHeartbeats 1000000 in
set_option maxRecDepth 100000 in
theorem c_X6_restart (Γ : gT) (l : Launch) (a : Nat → Nat) (x : Xst)  : Ci Γ l yX6_restart wsX6_restart rm_X6_restart [.ref (a 0)] (xW Γ a x) (lNow (xLoop x)) (xW Γ a (gRestart x)) := by
  refine Ci.of (cc := cX6_restart) (own := RX6) (nL := 2) (ret := (some .int)) (by decide +kernel) rfl rfl (Nat.le_of_ble_eq_true rfl) ?_
  intro p e s m args below meth c A Q H locs ls ha hAe hQ hx hb hml hr hts hown hlk hP hK hD hS hA hG hl
  have hh : Hd Γ p s m args c cX6_restart RX6 2 wsX6_restart A := ⟨⟨hx, hb, hml, hown, hts⟩, hK, hA, hG⟩
  have hl : lv_has ls 2 [(0, .ref (a 0))] := hl
  refine lv_aload_n hx hb dX6_restart_0 rfl (lv_at hl 0 rfl) ?_
  refine va_get (D := gD Γ) (cl := vwCl) (tys := gTy Γ) (ci := 6) (v := .ref (a 15)) (C := RX6) (T := TX6) (N := 11) hx hb hts iX6_restart_6 hown hK hP 0 rfl rfl 3 (Nat.le_of_ble_eq_true rfl) (hts (.fieldLink RX6 33 "DeadTimeLoop" "loop" "LDeadTimeLoop$Loop;") (List.mem_of_getElem? (i := 1) rfl)) (fun _ h9 => h9) rfl dX6_restart_1 ?_
  refine va_get (D := gD Γ) (cl := vwCl) (tys := gTy Γ) (ci := 1) (v := .int (lNow (xLoop x))) (C := RX1) (T := TX1) (N := 9) hx hb hts iX6_restart_1 hown hK hP 15 rfl rfl 0 (Nat.le_of_ble_eq_true rfl) (hts (.fieldLink RX6 135 "DeadTimeLoop$Loop" "now" "I") (List.mem_of_getElem? (i := 2) rfl)) (fun _ h9 => h9) rfl dX6_restart_4 ?_
  refine lv_istore_n (lv' := [(1, .int (lNow (xLoop x))), (0, .ref (a 0))]) hx hb dX6_restart_7 rfl hl (by decide) rfl (fun ls hl => ?_)
  refine lv_aload_n hx hb dX6_restart_8 rfl (lv_at hl 1 rfl) ?_
  refine va_get (D := gD Γ) (cl := vwCl) (tys := gTy Γ) (ci := 6) (v := .ref (a 15)) (C := RX6) (T := TX6) (N := 11) hx hb hts iX6_restart_6 hown hK hP 0 rfl rfl 3 (Nat.le_of_ble_eq_true rfl) (hts (.fieldLink RX6 33 "DeadTimeLoop" "loop" "LDeadTimeLoop$Loop;") (List.mem_of_getElem? (i := 1) rfl)) (fun _ h9 => h9) rfl dX6_restart_9 ?_
  obtain ⟨u_12, eu_12⟩ : ∃ z : Lop, z = fBegin (xLoop x) := ⟨_, rfl⟩
  have hM_12 : Cv Γ l yX1_begin wsX1_begin rm_X1_begin [.ref (a 15)] (lopW Γ a 15 (xLoop x)) (lopW Γ a 15 u_12) := by rw [eu_12]; exact c_X1_begin Γ l a 15 (xLoop x)
  refine ca_Vv hh hl.1 hM_12 (cwV 0 hts gX6_restart_X1_begin rfl rfl rfl (by decide +kernel) ⟨(Nat.le_of_ble_eq_true rfl), (Nat.le_of_ble_eq_true rfl)⟩) (As := []) (rest := []) rfl dX6_restart_12 rfl (Nat.le_of_ble_eq_true rfl) hP hD hS [15, 16, 17, 18, 19, 20, 21, 22, 23] rfl (xB_at_loop Γ a _) (q0 := 15) (ci := 1) rfl rfl rfl 9 rfl rfl (wf := xW Γ a ((xSet x), (xChg x), (xTxt x), u_12, (xFst x), (xSnd x), (xCnt x), (xTs x), (xIs x), (xTrial x), (xIdeal x))) (xB_up_loop Γ a _ _) (xW_addr _ _ _ _) ⟨Nat.zero_le _, Nat.zero_le _⟩ (fun H locs hP hD hS => ?_)
  refine lv_aload_n hx hb dX6_restart_15 rfl (lv_at hl 1 rfl) ?_
  refine lv_iconst (v := 0) hx hb dX6_restart_16 (by decide) ?_
  refine va_put (D := gD Γ) (cl := vwCl) (tys := gTy Γ) (ci := 6) (v := .int 0) (ty := tyX6 6) (C := RX6) (T := TX6) (N := 11) hx hb hts iX6_restart_6 tyX6 tyX6_ok nmX6 hown hK hP hD hS 0 rfl rfl 6 (Nat.le_of_ble_eq_true rfl) (hts (.fieldLink RX6 43 "DeadTimeLoop" "storedStates" "I") (List.mem_of_getElem? (i := 3) rfl)) (fun _ h9 => h9) rfl (tyX6_ok 6 (Nat.le_of_ble_eq_true rfl)) rfl rfl (Nat.le_of_ble_eq_true rfl) dX6_restart_17 (fun H locs hP hD hS => ?_)
  have hP : va_P (gD Γ) vwCl (xW Γ a ((xSet x), (xChg x), (xTxt x), u_12, (xFst x), (xSnd x), 0, (xTs x), (xIs x), (xTrial x), (xIdeal x))) H := hP
  have hD : va_D A (xW Γ a ((xSet x), (xChg x), (xTxt x), u_12, (xFst x), (xSnd x), 0, (xTs x), (xIs x), (xTrial x), (xIdeal x))) := hD
  refine lv_iload_n hx hb dX6_restart_20 rfl (lv_at hl 0 rfl) ?_
  exact re_i hQ ha hx hb hr hlk hAe hP hS dX6_restart_21 rfl (by simp only [gRestart, xPut_storedStates, xPut_loop, ← eu_12, if_true])
def rm_X6_watch : Room := { frames := 2, cells := 0, slots := 0, locals := 44 }
theorem iX6_watch_1 : ∀ w ∈ u_ws RX1 TX1 9, w ∈ wsX6_watch := fun w h => (List.mem_cons_of_mem _ (List.mem_append_left _ (List.mem_append_right _ h)))
theorem iX6_watch_5 : ∀ w ∈ u_ws RX5 TX5 5, w ∈ wsX6_watch := fun w h => (List.mem_cons_of_mem _ (List.mem_append_right _ h))
theorem iX6_watch_6 : ∀ w ∈ u_ws RX6 TX6 11, w ∈ wsX6_watch := fun w h => (List.mem_cons_of_mem _ (List.mem_append_left _ (List.mem_append_left _ (List.mem_append_right _ h))))
set_option maxHeartbeats 1000000 in
set_option maxRecDepth 100000 in
theorem c_X6_watch (Γ : gT) (l : Launch) (a : Nat → Nat) (x : Xst) (s1 : Int32) (hw : ¬ wCnt (lWat (xLoop x)) < 0) : Ci Γ l yX6_watch wsX6_watch rm_X6_watch [.ref (a 0), .int s1] (xW Γ a x) (rWatch x s1) (xW Γ a (gWatch x s1)) := by
  refine Ci.of (cc := cX6_watch) (own := RX6) (nL := 2) (ret := (some .int)) (by decide +kernel) rfl rfl (Nat.le_of_ble_eq_true rfl) ?_
  intro p e s m args below meth c A Q H locs ls ha hAe hQ hx hb hml hr hts hown hlk hP hK hD hS hA hG hl
  have hh : Hd Γ p s m args c cX6_watch RX6 2 wsX6_watch A := ⟨⟨hx, hb, hml, hown, hts⟩, hK, hA, hG⟩
  have hl : lv_has ls 2 [(0, .ref (a 0)), (1, .int s1)] := hl
  refine lv_iload_n hx hb dX6_watch_0 rfl (lv_at hl 1 rfl) ?_
  refine ca_Si hh hl.1 (c_X6_isSignal Γ l s1) (va_cwS 1 hts gX6_watch_X6_isSignal rfl rfl rfl (by decide +kernel) ⟨(Nat.le_of_ble_eq_true rfl), (Nat.le_of_ble_eq_true rfl)⟩) (As := [.int s1]) (rest := []) rfl dX6_watch_1 rfl (Nat.le_of_ble_eq_true rfl) hP hD hS ⟨Nat.zero_le _, Nat.zero_le _⟩ (fun H locs hP hS => ?_)
  refine lv_if_ne (tgt := 10) hx hb dX6_watch_4 (by decide) (fun c_4 => ?_) (fun c_4 => ?_)
  · -- yes
    refine lv_aload_n hx hb dX6_watch_10 rfl (lv_at hl 0 rfl) ?_
    refine va_get (D := gD Γ) (cl := vwCl) (tys := gTy Γ) (ci := 6) (v := .ref (a 15)) (C := RX6) (T := TX6) (N := 11) hx hb hts iX6_watch_6 hown hK hP 0 rfl rfl 3 (Nat.le_of_ble_eq_true rfl) (hts (.fieldLink RX6 33 "DeadTimeLoop" "loop" "LDeadTimeLoop$Loop;") (List.mem_of_getElem? (i := 2) rfl)) (fun _ h9 => h9) rfl dX6_watch_11 ?_
    refine va_get (D := gD Γ) (cl := vwCl) (tys := gTy Γ) (ci := 1) (v := .ref (a 19)) (C := RX1) (T := TX1) (N := 9) hx hb hts iX6_watch_1 hown hK hP 15 rfl rfl 8 (Nat.le_of_ble_eq_true rfl) (hts (.fieldLink RX6 156 "DeadTimeLoop$Loop" "watches" "LDeadTimeLoop$Watches;") (List.mem_of_getElem? (i := 3) rfl)) (fun _ h9 => h9) rfl dX6_watch_14 ?_
    refine lv_iload_n hx hb dX6_watch_17 rfl (lv_at hl 1 rfl) ?_
    obtain ⟨u_18, eu_18⟩ : ∃ z : Wat, z = fAdd (lWat (xLoop x)) s1 := ⟨_, rfl⟩
    have hM_18 : Ci Γ l yX5_add wsX5_add rm_X5_add [.ref (a 19), .int s1] (watW Γ a 19 (lWat (xLoop x))) (fAddR (wCnt (lWat (xLoop x))) (fPlace (wCnt (lWat (xLoop x))) (wSig (lWat (xLoop x))) s1)) (watW Γ a 19 u_18) := by rw [eu_18]; exact c_X5_add Γ l a 19 (lWat (xLoop x)) s1 hw
    refine ca_Vi hh hl.1 hM_18 (cwV 1 hts gX6_watch_X5_add rfl rfl rfl (by decide +kernel) ⟨(Nat.le_of_ble_eq_true rfl), (Nat.le_of_ble_eq_true rfl)⟩) (As := [.int s1]) (rest := []) rfl dX6_watch_18 rfl (Nat.le_of_ble_eq_true rfl) hP hD hS [19, 20, 21, 22, 23] rfl rfl (q0 := 19) (ci := 5) rfl rfl rfl 5 rfl rfl (wf := xW Γ a ((xSet x), (xChg x), (xTxt x), ((lNow (xLoop x)), (lLoad (xLoop x)), (lSeed (xLoop x)), (lBad (xLoop x)), (lGood (xLoop x)), (lPres (xLoop x)), (lRecs (xLoop x)), (lSec (xLoop x)), u_18), (xFst x), (xSnd x), (xCnt x), (xTs x), (xIs x), (xTrial x), (xIdeal x))) rfl (xW_addr _ _ _ _) ⟨Nat.zero_le _, Nat.zero_le _⟩ (fun H locs hP hD hS => ?_)
    refine lv_if_eq (tgt := 37) hx hb dX6_watch_21 (by decide) (fun c_21 => ?_) (fun c_21 => ?_)
    · -- yes
      refine lv_ldc hx hb hown (hts (.constant RX6 120 (-2000000003)) (List.mem_of_getElem? (i := 5) rfl)) dX6_watch_37 ?_
      exact re_i hQ ha hx hb hr hlk hAe hP hS dX6_watch_39 (by simp only [rWatch, ← eu_18, c_4, c_21, if_true, if_false]) (by simp only [gWatch, xPut_loop, lPut_watches, ← eu_18, c_4, c_21, if_true, if_false])
    · -- no
      refine lv_aload_n hx hb dX6_watch_24 rfl (lv_at hl 0 rfl) ?_
      refine va_get (D := gD Γ) (cl := vwCl) (tys := gTy Γ) (ci := 6) (v := .ref (a 15)) (C := RX6) (T := TX6) (N := 11) hx hb hts iX6_watch_6 hown hK hP 0 rfl rfl 3 (Nat.le_of_ble_eq_true rfl) (hts (.fieldLink RX6 33 "DeadTimeLoop" "loop" "LDeadTimeLoop$Loop;") (List.mem_of_getElem? (i := 2) rfl)) (fun _ h9 => h9) rfl dX6_watch_25 ?_
      refine va_get (D := gD Γ) (cl := vwCl) (tys := gTy Γ) (ci := 1) (v := .ref (a 19)) (C := RX1) (T := TX1) (N := 9) hx hb hts iX6_watch_1 hown hK hP 15 rfl rfl 8 (Nat.le_of_ble_eq_true rfl) (hts (.fieldLink RX6 156 "DeadTimeLoop$Loop" "watches" "LDeadTimeLoop$Watches;") (List.mem_of_getElem? (i := 3) rfl)) (fun _ h9 => h9) rfl dX6_watch_28 ?_
      refine va_get (D := gD Γ) (cl := vwCl) (tys := gTy Γ) (ci := 5) (v := .int (wCnt u_18)) (C := RX5) (T := TX5) (N := 5) hx hb hts iX6_watch_5 hown hK hP 19 rfl rfl 4 (Nat.le_of_ble_eq_true rfl) (hts (.fieldLink RX6 165 "DeadTimeLoop$Watches" "count" "I") (List.mem_of_getElem? (i := 4) rfl)) (fun _ h9 => h9) rfl dX6_watch_31 ?_
      refine lv_goto (tgt := 39) hx hb dX6_watch_34 (by decide) ?_
      exact re_i hQ ha hx hb hr hlk hAe hP hS dX6_watch_39 (by simp only [rWatch, ← eu_18, c_4, c_21, if_true, if_false]) (by simp only [gWatch, xPut_loop, lPut_watches, ← eu_18, c_4, c_21, if_true, if_false])
  · -- no
    refine lv_ldc hx hb hown (hts (.constant RX6 63 (-2000000001)) (List.mem_of_getElem? (i := 1) rfl)) dX6_watch_7 ?_
    exact re_i hQ ha hx hb hr hlk hAe hP hS dX6_watch_9 (by simp only [rWatch, c_4, if_true, if_false]) (by simp only [gWatch, xPut_loop, lPut_watches, c_4, if_true, if_false])
def rm_X6_unwatch : Room := { frames := 2, cells := 0, slots := 0, locals := 45 }
theorem iX6_unwatch_1 : ∀ w ∈ u_ws RX1 TX1 9, w ∈ wsX6_unwatch := fun w h => (List.mem_cons_of_mem _ (List.mem_append_left _ (List.mem_append_right _ h)))
theorem iX6_unwatch_5 : ∀ w ∈ u_ws RX5 TX5 5, w ∈ wsX6_unwatch := fun w h => (List.mem_cons_of_mem _ (List.mem_append_right _ h))
theorem iX6_unwatch_6 : ∀ w ∈ u_ws RX6 TX6 11, w ∈ wsX6_unwatch := fun w h => (List.mem_cons_of_mem _ (List.mem_append_left _ (List.mem_append_left _ (List.mem_append_right _ h))))
set_option maxHeartbeats 1000000 in
set_option maxRecDepth 100000 in
theorem c_X6_unwatch (Γ : gT) (l : Launch) (a : Nat → Nat) (x : Xst) (s1 : Int32)  : Ci Γ l yX6_unwatch wsX6_unwatch rm_X6_unwatch [.ref (a 0), .int s1] (xW Γ a x) (rUnwatch x s1) (xW Γ a (gUnwatch x s1)) := by
  refine Ci.of (cc := cX6_unwatch) (own := RX6) (nL := 2) (ret := (some .int)) (by decide +kernel) rfl rfl (Nat.le_of_ble_eq_true rfl) ?_
  intro p e s m args below meth c A Q H locs ls ha hAe hQ hx hb hml hr hts hown hlk hP hK hD hS hA hG hl
  have hh : Hd Γ p s m args c cX6_unwatch RX6 2 wsX6_unwatch A := ⟨⟨hx, hb, hml, hown, hts⟩, hK, hA, hG⟩
  have hl : lv_has ls 2 [(0, .ref (a 0)), (1, .int s1)] := hl
  refine lv_iload_n hx hb dX6_unwatch_0 rfl (lv_at hl 1 rfl) ?_
  refine ca_Si hh hl.1 (c_X6_isSignal Γ l s1) (va_cwS 1 hts gX6_unwatch_X6_isSignal rfl rfl rfl (by decide +kernel) ⟨(Nat.le_of_ble_eq_true rfl), (Nat.le_of_ble_eq_true rfl)⟩) (As := [.int s1]) (rest := []) rfl dX6_unwatch_1 rfl (Nat.le_of_ble_eq_true rfl) hP hD hS ⟨Nat.zero_le _, Nat.zero_le _⟩ (fun H locs hP hS => ?_)
  refine lv_if_ne (tgt := 10) hx hb dX6_unwatch_4 (by decide) (fun c_4 => ?_) (fun c_4 => ?_)
  · -- yes
    refine lv_aload_n hx hb dX6_unwatch_10 rfl (lv_at hl 0 rfl) ?_
    refine va_get (D := gD Γ) (cl := vwCl) (tys := gTy Γ) (ci := 6) (v := .ref (a 15)) (C := RX6) (T := TX6) (N := 11) hx hb hts iX6_unwatch_6 hown hK hP 0 rfl rfl 3 (Nat.le_of_ble_eq_true rfl) (hts (.fieldLink RX6 33 "DeadTimeLoop" "loop" "LDeadTimeLoop$Loop;") (List.mem_of_getElem? (i := 2) rfl)) (fun _ h9 => h9) rfl dX6_unwatch_11 ?_
    refine va_get (D := gD Γ) (cl := vwCl) (tys := gTy Γ) (ci := 1) (v := .ref (a 19)) (C := RX1) (T := TX1) (N := 9) hx hb hts iX6_unwatch_1 hown hK hP 15 rfl rfl 8 (Nat.le_of_ble_eq_true rfl) (hts (.fieldLink RX6 156 "DeadTimeLoop$Loop" "watches" "LDeadTimeLoop$Watches;") (List.mem_of_getElem? (i := 3) rfl)) (fun _ h9 => h9) rfl dX6_unwatch_14 ?_
    refine lv_iload_n hx hb dX6_unwatch_17 rfl (lv_at hl 1 rfl) ?_
    obtain ⟨u_18, eu_18⟩ : ∃ z : Wat, z = fRemove (lWat (xLoop x)) s1 := ⟨_, rfl⟩
    have hM_18 : Ci Γ l yX5_remove wsX5_remove rm_X5_remove [.ref (a 19), .int s1] (watW Γ a 19 (lWat (xLoop x))) (fRemR (fPlace (wCnt (lWat (xLoop x))) (wSig (lWat (xLoop x))) s1)) (watW Γ a 19 u_18) := by rw [eu_18]; exact c_X5_remove Γ l a 19 (lWat (xLoop x)) s1
    refine ca_Vi hh hl.1 hM_18 (cwV 1 hts gX6_unwatch_X5_remove rfl rfl rfl (by decide +kernel) ⟨(Nat.le_of_ble_eq_true rfl), (Nat.le_of_ble_eq_true rfl)⟩) (As := [.int s1]) (rest := []) rfl dX6_unwatch_18 rfl (Nat.le_of_ble_eq_true rfl) hP hD hS [19, 20, 21, 22, 23] rfl rfl (q0 := 19) (ci := 5) rfl rfl rfl 5 rfl rfl (wf := xW Γ a ((xSet x), (xChg x), (xTxt x), ((lNow (xLoop x)), (lLoad (xLoop x)), (lSeed (xLoop x)), (lBad (xLoop x)), (lGood (xLoop x)), (lPres (xLoop x)), (lRecs (xLoop x)), (lSec (xLoop x)), u_18), (xFst x), (xSnd x), (xCnt x), (xTs x), (xIs x), (xTrial x), (xIdeal x))) rfl (xW_addr _ _ _ _) ⟨Nat.zero_le _, Nat.zero_le _⟩ (fun H locs hP hD hS => ?_)
    refine lv_if_eq (tgt := 37) hx hb dX6_unwatch_21 (by decide) (fun c_21 => ?_) (fun c_21 => ?_)
    · -- yes
      refine lv_ldc hx hb hown (hts (.constant RX6 94 (-2000000004)) (List.mem_of_getElem? (i := 5) rfl)) dX6_unwatch_37 ?_
      exact re_i hQ ha hx hb hr hlk hAe hP hS dX6_unwatch_39 (by simp only [rUnwatch, ← eu_18, c_4, c_21, if_true, if_false]) (by simp only [gUnwatch, xPut_loop, lPut_watches, ← eu_18, c_4, c_21, if_true, if_false])
    · -- no
      refine lv_aload_n hx hb dX6_unwatch_24 rfl (lv_at hl 0 rfl) ?_
      refine va_get (D := gD Γ) (cl := vwCl) (tys := gTy Γ) (ci := 6) (v := .ref (a 15)) (C := RX6) (T := TX6) (N := 11) hx hb hts iX6_unwatch_6 hown hK hP 0 rfl rfl 3 (Nat.le_of_ble_eq_true rfl) (hts (.fieldLink RX6 33 "DeadTimeLoop" "loop" "LDeadTimeLoop$Loop;") (List.mem_of_getElem? (i := 2) rfl)) (fun _ h9 => h9) rfl dX6_unwatch_25 ?_
      refine va_get (D := gD Γ) (cl := vwCl) (tys := gTy Γ) (ci := 1) (v := .ref (a 19)) (C := RX1) (T := TX1) (N := 9) hx hb hts iX6_unwatch_1 hown hK hP 15 rfl rfl 8 (Nat.le_of_ble_eq_true rfl) (hts (.fieldLink RX6 156 "DeadTimeLoop$Loop" "watches" "LDeadTimeLoop$Watches;") (List.mem_of_getElem? (i := 3) rfl)) (fun _ h9 => h9) rfl dX6_unwatch_28 ?_
      refine va_get (D := gD Γ) (cl := vwCl) (tys := gTy Γ) (ci := 5) (v := .int (wCnt u_18)) (C := RX5) (T := TX5) (N := 5) hx hb hts iX6_unwatch_5 hown hK hP 19 rfl rfl 4 (Nat.le_of_ble_eq_true rfl) (hts (.fieldLink RX6 165 "DeadTimeLoop$Watches" "count" "I") (List.mem_of_getElem? (i := 4) rfl)) (fun _ h9 => h9) rfl dX6_unwatch_31 ?_
      refine lv_goto (tgt := 39) hx hb dX6_unwatch_34 (by decide) ?_
      exact re_i hQ ha hx hb hr hlk hAe hP hS dX6_unwatch_39 (by simp only [rUnwatch, ← eu_18, c_4, c_21, if_true, if_false]) (by simp only [gUnwatch, xPut_loop, lPut_watches, ← eu_18, c_4, c_21, if_true, if_false])
  · -- no
    refine lv_ldc hx hb hown (hts (.constant RX6 63 (-2000000001)) (List.mem_of_getElem? (i := 1) rfl)) dX6_unwatch_7 ?_
    exact re_i hQ ha hx hb hr hlk hAe hP hS dX6_unwatch_9 (by simp only [rUnwatch, c_4, if_true, if_false]) (by simp only [gUnwatch, xPut_loop, lPut_watches, c_4, if_true, if_false])
def rm_X6_watchedAt : Room := { frames := 0, cells := 0, slots := 0, locals := 0 }
theorem iX6_watchedAt_1 : ∀ w ∈ u_ws RX1 TX1 9, w ∈ wsX6_watchedAt := fun w h => (List.mem_cons_of_mem _ (List.mem_append_left _ (List.mem_append_right _ h)))
theorem iX6_watchedAt_5 : ∀ w ∈ u_ws RX5 TX5 5, w ∈ wsX6_watchedAt := fun w h => (List.mem_cons_of_mem _ (List.mem_append_right _ h))
theorem iX6_watchedAt_6 : ∀ w ∈ u_ws RX6 TX6 11, w ∈ wsX6_watchedAt := fun w h => (List.mem_cons_of_mem _ (List.mem_append_left _ (List.mem_append_left _ (List.mem_append_right _ h))))
set_option maxHeartbeats 1000000 in
set_option maxRecDepth 100000 in
theorem c_X6_watchedAt (Γ : gT) (l : Launch) (a : Nat → Nat) (x : Xst) (i1 : Int32)  : Ci Γ l yX6_watchedAt wsX6_watchedAt rm_X6_watchedAt [.ref (a 0), .int i1] (xW Γ a x) (rWatchedAt x i1) (xW Γ a x) := by
  refine Ci.of (cc := cX6_watchedAt) (own := RX6) (nL := 2) (ret := (some .int)) (by decide +kernel) rfl rfl (Nat.le_of_ble_eq_true rfl) ?_
  intro p e s m args below meth c A Q H locs ls ha hAe hQ hx hb hml hr hts hown hlk hP hK hD hS hA hG hl
  have hh : Hd Γ p s m args c cX6_watchedAt RX6 2 wsX6_watchedAt A := ⟨⟨hx, hb, hml, hown, hts⟩, hK, hA, hG⟩
  have hl : lv_has ls 2 [(0, .ref (a 0)), (1, .int i1)] := hl
  refine lv_iload_n hx hb dX6_watchedAt_0 rfl (lv_at hl 1 rfl) ?_
  refine lv_if_ge (tgt := 7) hx hb dX6_watchedAt_1 (by decide) (fun c_1 => ?_) (fun c_1 => ?_)
  · -- yes
    refine lv_iload_n hx hb dX6_watchedAt_7 rfl (lv_at hl 1 rfl) ?_
    refine lv_aload_n hx hb dX6_watchedAt_8 rfl (lv_at hl 0 rfl) ?_
    refine va_get (D := gD Γ) (cl := vwCl) (tys := gTy Γ) (ci := 6) (v := .ref (a 15)) (C := RX6) (T := TX6) (N := 11) hx hb hts iX6_watchedAt_6 hown hK hP 0 rfl rfl 3 (Nat.le_of_ble_eq_true rfl) (hts (.fieldLink RX6 33 "DeadTimeLoop" "loop" "LDeadTimeLoop$Loop;") (List.mem_of_getElem? (i := 2) rfl)) (fun _ h9 => h9) rfl dX6_watchedAt_9 ?_
    refine va_get (D := gD Γ) (cl := vwCl) (tys := gTy Γ) (ci := 1) (v := .ref (a 19)) (C := RX1) (T := TX1) (N := 9) hx hb hts iX6_watchedAt_1 hown hK hP 15 rfl rfl 8 (Nat.le_of_ble_eq_true rfl) (hts (.fieldLink RX6 156 "DeadTimeLoop$Loop" "watches" "LDeadTimeLoop$Watches;") (List.mem_of_getElem? (i := 3) rfl)) (fun _ h9 => h9) rfl dX6_watchedAt_12 ?_
    refine va_get (D := gD Γ) (cl := vwCl) (tys := gTy Γ) (ci := 5) (v := .int (wCnt (lWat (xLoop x)))) (C := RX5) (T := TX5) (N := 5) hx hb hts iX6_watchedAt_5 hown hK hP 19 rfl rfl 4 (Nat.le_of_ble_eq_true rfl) (hts (.fieldLink RX6 165 "DeadTimeLoop$Watches" "count" "I") (List.mem_of_getElem? (i := 4) rfl)) (fun _ h9 => h9) rfl dX6_watchedAt_15 ?_
    refine lv_icmp_ge (tgt := 41) hx hb dX6_watchedAt_18 (by decide) (fun c_18 => ?_) (fun c_18 => ?_)
    · -- yes
      refine lv_ldc hx hb hown (hts (.constant RX6 94 (-2000000004)) (List.mem_of_getElem? (i := 6) rfl)) dX6_watchedAt_41 ?_
      exact re_i hQ ha hx hb hr hlk hAe hP hS dX6_watchedAt_43 (by simp only [rWatchedAt, c_1, c_18, if_true, if_false]) rfl
    · -- no
      refine lv_iload_n hx hb dX6_watchedAt_21 rfl (lv_at hl 1 rfl) ?_
      refine lv_iconst (v := 4) hx hb dX6_watchedAt_22 (by decide) ?_
      refine lv_icmp_ge (tgt := 41) hx hb dX6_watchedAt_23 (by decide) (fun c_23 => ?_) (fun c_23 => ?_)
      · -- yes
        refine lv_ldc hx hb hown (hts (.constant RX6 94 (-2000000004)) (List.mem_of_getElem? (i := 6) rfl)) dX6_watchedAt_41 ?_
        exact re_i hQ ha hx hb hr hlk hAe hP hS dX6_watchedAt_43 (by simp only [rWatchedAt, c_1, c_18, c_23, if_true, if_false]) rfl
      · -- no
        refine lv_aload_n hx hb dX6_watchedAt_26 rfl (lv_at hl 0 rfl) ?_
        refine va_get (D := gD Γ) (cl := vwCl) (tys := gTy Γ) (ci := 6) (v := .ref (a 15)) (C := RX6) (T := TX6) (N := 11) hx hb hts iX6_watchedAt_6 hown hK hP 0 rfl rfl 3 (Nat.le_of_ble_eq_true rfl) (hts (.fieldLink RX6 33 "DeadTimeLoop" "loop" "LDeadTimeLoop$Loop;") (List.mem_of_getElem? (i := 2) rfl)) (fun _ h9 => h9) rfl dX6_watchedAt_27 ?_
        refine va_get (D := gD Γ) (cl := vwCl) (tys := gTy Γ) (ci := 1) (v := .ref (a 19)) (C := RX1) (T := TX1) (N := 9) hx hb hts iX6_watchedAt_1 hown hK hP 15 rfl rfl 8 (Nat.le_of_ble_eq_true rfl) (hts (.fieldLink RX6 156 "DeadTimeLoop$Loop" "watches" "LDeadTimeLoop$Watches;") (List.mem_of_getElem? (i := 3) rfl)) (fun _ h9 => h9) rfl dX6_watchedAt_30 ?_
        refine va_get (D := gD Γ) (cl := vwCl) (tys := gTy Γ) (ci := 5) (v := .ref (a 20)) (C := RX5) (T := TX5) (N := 5) hx hb hts iX6_watchedAt_5 hown hK hP 19 rfl rfl 0 (Nat.le_of_ble_eq_true rfl) (hts (.fieldLink RX6 169 "DeadTimeLoop$Watches" "signals" "[I") (List.mem_of_getElem? (i := 5) rfl)) (fun _ h9 => h9) rfl dX6_watchedAt_33 ?_
        refine lv_iload_n hx hb dX6_watchedAt_36 rfl (lv_at hl 1 rfl) ?_
        refine ka_iald (D := gD Γ) (cl := vwCl) (tys := gTy Γ) hx hb hK hP 20 0 rfl rfl (i1.toNatClampNeg) (nI_of_in (in_rng (n := 4) (by decide) (Int32.not_lt.mpr c_1) c_23) (by decide)) (in_lt (in_rng (n := 4) (by decide) (Int32.not_lt.mpr c_1) c_23)) (by decide) (v := ((wSig (lWat (xLoop x))) i1.toNatClampNeg)) rfl dX6_watchedAt_37 ?_
        refine lv_goto (tgt := 43) hx hb dX6_watchedAt_38 (by decide) ?_
        exact re_i hQ ha hx hb hr hlk hAe hP hS dX6_watchedAt_43 (by simp only [rWatchedAt, c_1, c_18, c_23, if_true, if_false]) rfl
  · -- no
    refine lv_ldc hx hb hown (hts (.constant RX6 63 (-2000000001)) (List.mem_of_getElem? (i := 1) rfl)) dX6_watchedAt_4 ?_
    exact re_i hQ ha hx hb hr hlk hAe hP hS dX6_watchedAt_6 (by simp only [rWatchedAt, c_1, if_true, if_false]) rfl
def rm_X6_extreme : Room := { frames := 1, cells := 0, slots := 0, locals := 22 }
theorem iX6_extreme_1 : ∀ w ∈ u_ws RX1 TX1 9, w ∈ wsX6_extreme := fun w h => (List.mem_cons_of_mem _ (List.mem_append_left _ (List.mem_append_right _ h)))
theorem iX6_extreme_6 : ∀ w ∈ u_ws RX6 TX6 11, w ∈ wsX6_extreme := fun w h => (List.mem_cons_of_mem _ (List.mem_append_left _ (List.mem_append_left _ (List.mem_append_right _ h))))
set_option maxHeartbeats 1000000 in
set_option maxRecDepth 100000 in
theorem c_X6_extreme (Γ : gT) (l : Launch) (a : Nat → Nat) (x : Xst) (s1 : Int32) (what : Int32)  : Ci Γ l yX6_extreme wsX6_extreme rm_X6_extreme [.ref (a 0), .int s1, .int what] (xW Γ a x) (rExtreme x s1 what) (xW Γ a x) := by
  refine Ci.of (cc := cX6_extreme) (own := RX6) (nL := 4) (ret := (some .int)) (by decide +kernel) rfl rfl (Nat.le_of_ble_eq_true rfl) ?_
  intro p e s m args below meth c A Q H locs ls ha hAe hQ hx hb hml hr hts hown hlk hP hK hD hS hA hG hl
  have hh : Hd Γ p s m args c cX6_extreme RX6 4 wsX6_extreme A := ⟨⟨hx, hb, hml, hown, hts⟩, hK, hA, hG⟩
  have hl : lv_has ls 4 [(0, .ref (a 0)), (1, .int s1), (2, .int what)] := hl
  refine lv_iload_n hx hb dX6_extreme_0 rfl (lv_at hl 1 rfl) ?_
  refine ca_Si hh hl.1 (c_X6_isSignal Γ l s1) (va_cwS 1 hts gX6_extreme_X6_isSignal rfl rfl rfl (by decide +kernel) ⟨(Nat.le_of_ble_eq_true rfl), (Nat.le_of_ble_eq_true rfl)⟩) (As := [.int s1]) (rest := []) rfl dX6_extreme_1 rfl (Nat.le_of_ble_eq_true rfl) hP hD hS ⟨Nat.zero_le _, Nat.zero_le _⟩ (fun H locs hP hS => ?_)
  refine lv_if_eq (tgt := 16) hx hb dX6_extreme_4 (by decide) (fun c_4 => ?_) (fun c_4 => ?_)
  · -- yes
    refine lv_ldc hx hb hown (hts (.constant RX6 63 (-2000000001)) (List.mem_of_getElem? (i := 1) rfl)) dX6_extreme_16 ?_
    exact re_i hQ ha hx hb hr hlk hAe hP hS dX6_extreme_18 (by simp only [rExtreme, rExtreme1, c_4, if_true, if_false]) rfl
  · -- no
    refine lv_iload_n hx hb dX6_extreme_7 rfl (lv_at hl 2 rfl) ?_
    refine lv_if_lt (tgt := 16) hx hb dX6_extreme_8 (by decide) (fun c_8 => ?_) (fun c_8 => ?_)
    · -- yes
      refine lv_ldc hx hb hown (hts (.constant RX6 63 (-2000000001)) (List.mem_of_getElem? (i := 1) rfl)) dX6_extreme_16 ?_
      exact re_i hQ ha hx hb hr hlk hAe hP hS dX6_extreme_18 (by simp only [rExtreme, rExtreme1, c_4, c_8, if_true, if_false]) rfl
    · -- no
      refine lv_iload_n hx hb dX6_extreme_11 rfl (lv_at hl 2 rfl) ?_
      refine lv_iconst (v := 2) hx hb dX6_extreme_12 (by decide) ?_
      refine lv_icmp_le (tgt := 19) hx hb dX6_extreme_13 (by decide) (fun c_13 => ?_) (fun c_13 => ?_)
      · -- yes
        refine lv_aload_n hx hb dX6_extreme_19 rfl (lv_at hl 0 rfl) ?_
        refine va_get (D := gD Γ) (cl := vwCl) (tys := gTy Γ) (ci := 6) (v := .ref (a 15)) (C := RX6) (T := TX6) (N := 11) hx hb hts iX6_extreme_6 hown hK hP 0 rfl rfl 3 (Nat.le_of_ble_eq_true rfl) (hts (.fieldLink RX6 33 "DeadTimeLoop" "loop" "LDeadTimeLoop$Loop;") (List.mem_of_getElem? (i := 2) rfl)) (fun _ h9 => h9) rfl dX6_extreme_20 ?_
        refine va_get (D := gD Γ) (cl := vwCl) (tys := gTy Γ) (ci := 1) (v := .ref (a 19)) (C := RX1) (T := TX1) (N := 9) hx hb hts iX6_extreme_1 hown hK hP 15 rfl rfl 8 (Nat.le_of_ble_eq_true rfl) (hts (.fieldLink RX6 156 "DeadTimeLoop$Loop" "watches" "LDeadTimeLoop$Watches;") (List.mem_of_getElem? (i := 3) rfl)) (fun _ h9 => h9) rfl dX6_extreme_23 ?_
        refine lv_iload_n hx hb dX6_extreme_26 rfl (lv_at hl 1 rfl) ?_
        refine ca_Vi hh hl.1 (c_X5_placeOf Γ l a 19 (lWat (xLoop x)) s1) (cwV 1 hts gX6_extreme_X5_placeOf rfl rfl rfl (by decide +kernel) ⟨(Nat.le_of_ble_eq_true rfl), (Nat.le_of_ble_eq_true rfl)⟩) (As := [.int s1]) (rest := []) rfl dX6_extreme_27 rfl (Nat.le_of_ble_eq_true rfl) hP hD hS [19, 20, 21, 22, 23] rfl rfl (q0 := 19) (ci := 5) rfl rfl rfl 5 rfl rfl (wf := xW Γ a x) rfl (xW_addr _ _ _ _) ⟨Nat.zero_le _, Nat.zero_le _⟩ (fun H locs hP hD hS => ?_)
        refine lv_istore_n (lv' := [(3, .int (fPlace (wCnt (lWat (xLoop x))) (wSig (lWat (xLoop x))) s1)), (0, .ref (a 0)), (1, .int s1), (2, .int what)]) hx hb dX6_extreme_30 rfl hl (by decide) rfl (fun ls hl => ?_)
        refine lv_iload_n hx hb dX6_extreme_31 rfl (lv_at hl 0 rfl) ?_
        refine lv_iconst (v := (-1)) hx hb dX6_extreme_32 (by decide) ?_
        refine lv_icmp_ne (tgt := 39) hx hb dX6_extreme_33 (by decide) (fun c_33 => ?_) (fun c_33 => ?_)
        · -- yes
          refine lv_aload_n hx hb dX6_extreme_39 rfl (lv_at hl 1 rfl) ?_
          refine va_get (D := gD Γ) (cl := vwCl) (tys := gTy Γ) (ci := 6) (v := .ref (a 15)) (C := RX6) (T := TX6) (N := 11) hx hb hts iX6_extreme_6 hown hK hP 0 rfl rfl 3 (Nat.le_of_ble_eq_true rfl) (hts (.fieldLink RX6 33 "DeadTimeLoop" "loop" "LDeadTimeLoop$Loop;") (List.mem_of_getElem? (i := 2) rfl)) (fun _ h9 => h9) rfl dX6_extreme_40 ?_
          refine va_get (D := gD Γ) (cl := vwCl) (tys := gTy Γ) (ci := 1) (v := .ref (a 19)) (C := RX1) (T := TX1) (N := 9) hx hb hts iX6_extreme_1 hown hK hP 15 rfl rfl 8 (Nat.le_of_ble_eq_true rfl) (hts (.fieldLink RX6 156 "DeadTimeLoop$Loop" "watches" "LDeadTimeLoop$Watches;") (List.mem_of_getElem? (i := 3) rfl)) (fun _ h9 => h9) rfl dX6_extreme_43 ?_
          refine lv_iload_n hx hb dX6_extreme_46 rfl (lv_at hl 0 rfl) ?_
          refine ca_Vi hh hl.1 (c_X5_hasSeen Γ l a 19 (lWat (xLoop x)) (fPlace (wCnt (lWat (xLoop x))) (wSig (lWat (xLoop x))) s1)) (cwV 1 hts gX6_extreme_X5_hasSeen rfl rfl rfl (by decide +kernel) ⟨(Nat.le_of_ble_eq_true rfl), (Nat.le_of_ble_eq_true rfl)⟩) (As := [.int (fPlace (wCnt (lWat (xLoop x))) (wSig (lWat (xLoop x))) s1)]) (rest := []) rfl dX6_extreme_47 rfl (Nat.le_of_ble_eq_true rfl) hP hD hS [19, 20, 21, 22, 23] rfl rfl (q0 := 19) (ci := 5) rfl rfl rfl 5 rfl rfl (wf := xW Γ a x) rfl (xW_addr _ _ _ _) ⟨Nat.zero_le _, Nat.zero_le _⟩ (fun H locs hP hD hS => ?_)
          refine lv_if_eq (tgt := 68) hx hb dX6_extreme_50 (by decide) (fun c_50 => ?_) (fun c_50 => ?_)
          · -- yes
            refine lv_ldc hx hb hown (hts (.constant RX6 94 (-2000000004)) (List.mem_of_getElem? (i := 5) rfl)) dX6_extreme_68 ?_
            exact re_i hQ ha hx hb hr hlk hAe hP hS dX6_extreme_70 (by simp only [rExtreme, rExtreme1, c_4, c_8, c_13, c_33, c_50, if_true, if_false]) rfl
          · -- no
            refine lv_aload_n hx hb dX6_extreme_53 rfl (lv_at hl 1 rfl) ?_
            refine va_get (D := gD Γ) (cl := vwCl) (tys := gTy Γ) (ci := 6) (v := .ref (a 15)) (C := RX6) (T := TX6) (N := 11) hx hb hts iX6_extreme_6 hown hK hP 0 rfl rfl 3 (Nat.le_of_ble_eq_true rfl) (hts (.fieldLink RX6 33 "DeadTimeLoop" "loop" "LDeadTimeLoop$Loop;") (List.mem_of_getElem? (i := 2) rfl)) (fun _ h9 => h9) rfl dX6_extreme_54 ?_
            refine va_get (D := gD Γ) (cl := vwCl) (tys := gTy Γ) (ci := 1) (v := .ref (a 19)) (C := RX1) (T := TX1) (N := 9) hx hb hts iX6_extreme_1 hown hK hP 15 rfl rfl 8 (Nat.le_of_ble_eq_true rfl) (hts (.fieldLink RX6 156 "DeadTimeLoop$Loop" "watches" "LDeadTimeLoop$Watches;") (List.mem_of_getElem? (i := 3) rfl)) (fun _ h9 => h9) rfl dX6_extreme_57 ?_
            refine lv_iload_n hx hb dX6_extreme_60 rfl (lv_at hl 0 rfl) ?_
            refine lv_iload_n hx hb dX6_extreme_61 rfl (lv_at hl 3 rfl) ?_
            refine ca_Vi hh hl.1 (c_X5_get Γ l a 19 (lWat (xLoop x)) (fPlace (wCnt (lWat (xLoop x))) (wSig (lWat (xLoop x))) s1) what) (cwV 2 hts gX6_extreme_X5_get rfl rfl rfl (by decide +kernel) ⟨(Nat.le_of_ble_eq_true rfl), (Nat.le_of_ble_eq_true rfl)⟩) (As := [.int (fPlace (wCnt (lWat (xLoop x))) (wSig (lWat (xLoop x))) s1), .int what]) (rest := []) rfl dX6_extreme_62 rfl (Nat.le_of_ble_eq_true rfl) hP hD hS [19, 20, 21, 22, 23] rfl rfl (q0 := 19) (ci := 5) rfl rfl rfl 5 rfl rfl (wf := xW Γ a x) rfl (xW_addr _ _ _ _) ⟨Nat.zero_le _, Nat.zero_le _⟩ (fun H locs hP hD hS => ?_)
            refine lv_goto (tgt := 70) hx hb dX6_extreme_65 (by decide) ?_
            exact re_i hQ ha hx hb hr hlk hAe hP hS dX6_extreme_70 (by simp only [rExtreme, rExtreme1, c_4, c_8, c_13, c_33, c_50, if_true, if_false]) rfl
        · -- no
          refine lv_ldc hx hb hown (hts (.constant RX6 98 (-2000000002)) (List.mem_of_getElem? (i := 4) rfl)) dX6_extreme_36 ?_
          exact re_i hQ ha hx hb hr hlk hAe hP hS dX6_extreme_38 (by simp only [rExtreme, rExtreme1, c_4, c_8, c_13, c_33, if_true, if_false]) rfl
      · -- no
        refine lv_ldc hx hb hown (hts (.constant RX6 63 (-2000000001)) (List.mem_of_getElem? (i := 1) rfl)) dX6_extreme_16 ?_
        exact re_i hQ ha hx hb hr hlk hAe hP hS dX6_extreme_18 (by simp only [rExtreme, rExtreme1, c_4, c_8, c_13, if_true, if_false]) rfl
def rm_X6_measure : Room := { frames := 0, cells := 0, slots := 0, locals := 0 }
theorem iX6_measure_1 : ∀ w ∈ u_ws RX1 TX1 9, w ∈ wsX6_measure := fun w h => (List.mem_cons_of_mem _ (List.mem_append_left _ (List.mem_append_right _ h)))
theorem iX6_measure_2 : ∀ w ∈ u_ws RX2 TX2 5, w ∈ wsX6_measure := fun w h => (List.mem_cons_of_mem _ (List.mem_append_right _ h))
theorem iX6_measure_6 : ∀ w ∈ u_ws RX6 TX6 11, w ∈ wsX6_measure := fun w h => (List.mem_cons_of_mem _ (List.mem_append_left _ (List.mem_append_left _ (List.mem_append_right _ h))))
set_option maxHeartbeats 1000000 in
set_option maxRecDepth 100000 in
theorem c_X6_measure (Γ : gT) (l : Launch) (a : Nat → Nat) (x : Xst) (k : Int32)  : Cl Γ l yX6_measure wsX6_measure rm_X6_measure [.ref (a 0), .int k] (xW Γ a x) (rMeasure x k) (xW Γ a x) := by
  refine Cl.of (cc := cX6_measure) (own := RX6) (nL := 2) (ret := (some .long)) (by decide +kernel) rfl rfl (Nat.le_of_ble_eq_true rfl) ?_
  intro p e s m args below meth c A Q H locs ls ha hAe hQ hx hb hml hr hts hown hlk hP hK hD hS hA hG hl
  have hh : Hd Γ p s m args c cX6_measure RX6 2 wsX6_measure A := ⟨⟨hx, hb, hml, hown, hts⟩, hK, hA, hG⟩
  have hl : lv_has ls 2 [(0, .ref (a 0)), (1, .int k)] := hl
  refine lv_iload_n hx hb dX6_measure_0 rfl (lv_at hl 1 rfl) ?_
  by_cases t_1_0 : k = 0
  · --
    refine lv_tableIn (tgt := 32) (off := 31) hx hb dX6_measure_1 (by rw [t_1_0]; decide) (by rw [t_1_0]; decide) (by rw [t_1_0]; rfl) (by decide) ?_
    refine lv_aload_n hx hb dX6_measure_32 rfl (lv_at hl 0 rfl) ?_
    refine va_get (D := gD Γ) (cl := vwCl) (tys := gTy Γ) (ci := 6) (v := .ref (a 15)) (C := RX6) (T := TX6) (N := 11) hx hb hts iX6_measure_6 hown hK hP 0 rfl rfl 3 (Nat.le_of_ble_eq_true rfl) (hts (.fieldLink RX6 33 "DeadTimeLoop" "loop" "LDeadTimeLoop$Loop;") (List.mem_of_getElem? (i := 1) rfl)) (fun _ h9 => h9) rfl dX6_measure_33 ?_
    refine va_get (D := gD Γ) (cl := vwCl) (tys := gTy Γ) (ci := 1) (v := .ref (a 18)) (C := RX1) (T := TX1) (N := 9) hx hb hts iX6_measure_1 hown hK hP 15 rfl rfl 7 (Nat.le_of_ble_eq_true rfl) (hts (.fieldLink RX6 180 "DeadTimeLoop$Loop" "section" "LDeadTimeLoop$Section;") (List.mem_of_getElem? (i := 2) rfl)) (fun _ h9 => h9) rfl dX6_measure_36 ?_
    refine va_get (D := gD Γ) (cl := vwCl) (tys := gTy Γ) (ci := 2) (v := .long (sErr (lSec (xLoop x)))) (C := RX2) (T := TX2) (N := 5) hx hb hts iX6_measure_2 hown hK hP 18 rfl rfl 0 (Nat.le_of_ble_eq_true rfl) (hts (.fieldLink RX6 184 "DeadTimeLoop$Section" "errorSum" "J") (List.mem_of_getElem? (i := 3) rfl)) (fun _ h9 => h9) rfl dX6_measure_39 ?_
    exact re_l hQ ha hx hb hr hlk hAe hP hS dX6_measure_42 (by simp [rMeasure, t_1_0]) rfl
  by_cases t_1_1 : k = 1
  · --
    refine lv_tableIn (tgt := 43) (off := 42) hx hb dX6_measure_1 (by rw [t_1_1]; decide) (by rw [t_1_1]; decide) (by rw [t_1_1]; rfl) (by decide) ?_
    refine lv_aload_n hx hb dX6_measure_43 rfl (lv_at hl 0 rfl) ?_
    refine va_get (D := gD Γ) (cl := vwCl) (tys := gTy Γ) (ci := 6) (v := .ref (a 15)) (C := RX6) (T := TX6) (N := 11) hx hb hts iX6_measure_6 hown hK hP 0 rfl rfl 3 (Nat.le_of_ble_eq_true rfl) (hts (.fieldLink RX6 33 "DeadTimeLoop" "loop" "LDeadTimeLoop$Loop;") (List.mem_of_getElem? (i := 1) rfl)) (fun _ h9 => h9) rfl dX6_measure_44 ?_
    refine va_get (D := gD Γ) (cl := vwCl) (tys := gTy Γ) (ci := 1) (v := .ref (a 18)) (C := RX1) (T := TX1) (N := 9) hx hb hts iX6_measure_1 hown hK hP 15 rfl rfl 7 (Nat.le_of_ble_eq_true rfl) (hts (.fieldLink RX6 180 "DeadTimeLoop$Loop" "section" "LDeadTimeLoop$Section;") (List.mem_of_getElem? (i := 2) rfl)) (fun _ h9 => h9) rfl dX6_measure_47 ?_
    refine va_get (D := gD Γ) (cl := vwCl) (tys := gTy Γ) (ci := 2) (v := .long (sEff (lSec (xLoop x)))) (C := RX2) (T := TX2) (N := 5) hx hb hts iX6_measure_2 hown hK hP 18 rfl rfl 1 (Nat.le_of_ble_eq_true rfl) (hts (.fieldLink RX6 190 "DeadTimeLoop$Section" "effort" "J") (List.mem_of_getElem? (i := 4) rfl)) (fun _ h9 => h9) rfl dX6_measure_50 ?_
    exact re_l hQ ha hx hb hr hlk hAe hP hS dX6_measure_53 (by simp [rMeasure, t_1_1]) rfl
  by_cases t_1_2 : k = 2
  · --
    refine lv_tableIn (tgt := 54) (off := 53) hx hb dX6_measure_1 (by rw [t_1_2]; decide) (by rw [t_1_2]; decide) (by rw [t_1_2]; rfl) (by decide) ?_
    refine lv_aload_n hx hb dX6_measure_54 rfl (lv_at hl 0 rfl) ?_
    refine va_get (D := gD Γ) (cl := vwCl) (tys := gTy Γ) (ci := 6) (v := .ref (a 15)) (C := RX6) (T := TX6) (N := 11) hx hb hts iX6_measure_6 hown hK hP 0 rfl rfl 3 (Nat.le_of_ble_eq_true rfl) (hts (.fieldLink RX6 33 "DeadTimeLoop" "loop" "LDeadTimeLoop$Loop;") (List.mem_of_getElem? (i := 1) rfl)) (fun _ h9 => h9) rfl dX6_measure_55 ?_
    refine va_get (D := gD Γ) (cl := vwCl) (tys := gTy Γ) (ci := 1) (v := .ref (a 18)) (C := RX1) (T := TX1) (N := 9) hx hb hts iX6_measure_1 hown hK hP 15 rfl rfl 7 (Nat.le_of_ble_eq_true rfl) (hts (.fieldLink RX6 180 "DeadTimeLoop$Loop" "section" "LDeadTimeLoop$Section;") (List.mem_of_getElem? (i := 2) rfl)) (fun _ h9 => h9) rfl dX6_measure_58 ?_
    refine va_get (D := gD Γ) (cl := vwCl) (tys := gTy Γ) (ci := 2) (v := .int (sOver (lSec (xLoop x)))) (C := RX2) (T := TX2) (N := 5) hx hb hts iX6_measure_2 hown hK hP 18 rfl rfl 2 (Nat.le_of_ble_eq_true rfl) (hts (.fieldLink RX6 193 "DeadTimeLoop$Section" "overshoot" "I") (List.mem_of_getElem? (i := 5) rfl)) (fun _ h9 => h9) rfl dX6_measure_61 ?_
    refine lv_i2l (v := (sOver (lSec (xLoop x))).toInt64) hx hb dX6_measure_64 rfl ?_
    exact re_l hQ ha hx hb hr hlk hAe hP hS dX6_measure_65 (by simp [rMeasure, t_1_2]) rfl
  by_cases t_1_3 : k = 3
  · --
    refine lv_tableIn (tgt := 66) (off := 65) hx hb dX6_measure_1 (by rw [t_1_3]; decide) (by rw [t_1_3]; decide) (by rw [t_1_3]; rfl) (by decide) ?_
    refine lv_aload_n hx hb dX6_measure_66 rfl (lv_at hl 0 rfl) ?_
    refine va_get (D := gD Γ) (cl := vwCl) (tys := gTy Γ) (ci := 6) (v := .ref (a 15)) (C := RX6) (T := TX6) (N := 11) hx hb hts iX6_measure_6 hown hK hP 0 rfl rfl 3 (Nat.le_of_ble_eq_true rfl) (hts (.fieldLink RX6 33 "DeadTimeLoop" "loop" "LDeadTimeLoop$Loop;") (List.mem_of_getElem? (i := 1) rfl)) (fun _ h9 => h9) rfl dX6_measure_67 ?_
    refine va_get (D := gD Γ) (cl := vwCl) (tys := gTy Γ) (ci := 1) (v := .ref (a 18)) (C := RX1) (T := TX1) (N := 9) hx hb hts iX6_measure_1 hown hK hP 15 rfl rfl 7 (Nat.le_of_ble_eq_true rfl) (hts (.fieldLink RX6 180 "DeadTimeLoop$Loop" "section" "LDeadTimeLoop$Section;") (List.mem_of_getElem? (i := 2) rfl)) (fun _ h9 => h9) rfl dX6_measure_70 ?_
    refine va_get (D := gD Γ) (cl := vwCl) (tys := gTy Γ) (ci := 2) (v := .int (sTicks (lSec (xLoop x)))) (C := RX2) (T := TX2) (N := 5) hx hb hts iX6_measure_2 hown hK hP 18 rfl rfl 3 (Nat.le_of_ble_eq_true rfl) (hts (.fieldLink RX6 196 "DeadTimeLoop$Section" "ticks" "I") (List.mem_of_getElem? (i := 6) rfl)) (fun _ h9 => h9) rfl dX6_measure_73 ?_
    refine lv_i2l (v := (sTicks (lSec (xLoop x))).toInt64) hx hb dX6_measure_76 rfl ?_
    exact re_l hQ ha hx hb hr hlk hAe hP hS dX6_measure_77 (by simp [rMeasure, t_1_3]) rfl
  refine lv_tableOut (tgt := 78) hx hb dX6_measure_1 (tbl_out k 0 3 (by decide) (by decide) (tb_out4 t_1_0 t_1_1 t_1_2 t_1_3)) (by decide) ?_
  refine lv_ldc2 hx hb hown (hts (.constantLong RX6 199 (-2000000001)) (List.mem_of_getElem? (i := 7) rfl)) dX6_measure_78 ?_
  exact re_l hQ ha hx hb hr hlk hAe hP hS dX6_measure_81 (by simp [rMeasure, t_1_0, t_1_1, t_1_2, t_1_3]) rfl
