def rm_X6_allows : Room := { frames := 1, cells := 0, slots := 0, locals := 20 }
set_option maxHeartbeats 1000000 in
set_option maxRecDepth 100000 in
theorem c_X6_allows (Γ : gT) (l : Launch) (k : Int32) (v : Int32)  : Ci Γ l yX6_allows wsX6_allows rm_X6_allows [.int k, .int v] ([]) (fAllows k v) ([]) := by
  refine Ci.of (cc := cX6_allows) (own := RX6) (nL := 2) (ret := (some .boolean)) (by decide +kernel) rfl rfl (Nat.le_of_ble_eq_true rfl) ?_
  intro p e s m args below meth c A Q H locs ls ha hAe hQ hx hb hml hr hts hown hlk hP hK hD hS hA hG hl
  have hh : Hd Γ p s m args c cX6_allows RX6 2 wsX6_allows A := ⟨⟨hx, hb, hml, hown, hts⟩, hK, hA, hG⟩
  have hl : lv_has ls 2 [(0, .int k), (1, .int v)] := hl
  refine lv_iload_n hx hb dX6_allows_0 rfl (lv_at hl 0 rfl) ?_
  refine ca_Si hh hl.1 (c_X6_isParameter Γ l k) (va_cwS 1 hts gX6_allows_X6_isParameter rfl rfl rfl (by decide +kernel) ⟨(Nat.le_of_ble_eq_true rfl), (Nat.le_of_ble_eq_true rfl)⟩) (As := [.int k]) (rest := []) rfl dX6_allows_1 rfl (Nat.le_of_ble_eq_true rfl) hP hD hS ⟨Nat.zero_le _, Nat.zero_le _⟩ (fun H locs hP hS => ?_)
  refine lv_if_eq (tgt := 29) hx hb dX6_allows_4 (by decide) (fun c_4 => ?_) (fun c_4 => ?_)
  · -- yes
    refine lv_iconst (v := 0) hx hb dX6_allows_29 (by decide) ?_
    exact re_z hQ ha hx hb hr hlk hAe hP hS dX6_allows_30 rfl (by skip; first | rfl | simp [fAllows, c_4]) (by skip; first | rfl | simp [fAllows, c_4])
  · -- no
    refine lv_iload_n hx hb dX6_allows_7 rfl (lv_at hl 1 rfl) ?_
    refine va_gets hx hb hG.2.2.1.1 hS hown (hts (.fieldLink RX6 244 "DeadTimeLoop" "LEAST" "[I") (List.mem_of_getElem? (i := 1) rfl)) (fun _ h9 => h9) dX6_allows_8 ?_
    refine lv_iload_n hx hb dX6_allows_11 rfl (lv_at hl 0 rfl) ?_
    refine va_ti (v := .int (pLeast k.toNatClampNeg)) hx hb hG.2.2.1.2 hS (fPar_in c_4) rfl dX6_allows_12 ?_
    refine lv_icmp_lt (tgt := 29) hx hb dX6_allows_13 (by decide) (fun c_13 => ?_) (fun c_13 => ?_)
    · -- yes
      refine lv_iconst (v := 0) hx hb dX6_allows_29 (by decide) ?_
      exact re_z hQ ha hx hb hr hlk hAe hP hS dX6_allows_30 rfl (by skip; first | rfl | simp [fAllows, c_4, c_13]) (by skip; first | rfl | simp [fAllows, c_4, c_13])
    · -- no
      refine lv_iload_n hx hb dX6_allows_16 rfl (lv_at hl 1 rfl) ?_
      refine va_gets hx hb hG.2.2.2.1.1 hS hown (hts (.fieldLink RX6 247 "DeadTimeLoop" "GREATEST" "[I") (List.mem_of_getElem? (i := 2) rfl)) (fun _ h9 => h9) dX6_allows_17 ?_
      refine lv_iload_n hx hb dX6_allows_20 rfl (lv_at hl 0 rfl) ?_
      refine va_ti (v := .int (pGreatest k.toNatClampNeg)) hx hb hG.2.2.2.1.2 hS (fPar_in c_4) rfl dX6_allows_21 ?_
      refine lv_icmp_gt (tgt := 29) hx hb dX6_allows_22 (by decide) (fun c_22 => ?_) (fun c_22 => ?_)
      · -- yes
        refine lv_iconst (v := 0) hx hb dX6_allows_29 (by decide) ?_
        exact re_z hQ ha hx hb hr hlk hAe hP hS dX6_allows_30 rfl (by skip; first | rfl | simp [fAllows, c_4, c_13, c_22]) (by skip; first | rfl | simp [fAllows, c_4, c_13, c_22])
      · -- no
        refine lv_iconst (v := 1) hx hb dX6_allows_25 (by decide) ?_
        refine lv_goto (tgt := 30) hx hb dX6_allows_26 (by decide) ?_
        exact re_z hQ ha hx hb hr hlk hAe hP hS dX6_allows_30 rfl (by skip; first | rfl | simp [fAllows, c_4, c_13, c_22]) (by skip; first | rfl | simp [fAllows, c_4, c_13, c_22])
def rm_X6_setParameter : Room := { frames := 3, cells := 0, slots := 0, locals := 70 }
theorem iX6_setParameter_6 : ∀ w ∈ u_ws RX6 TX6 11, w ∈ wsX6_setParameter := fun w h => (List.mem_cons_of_mem _ (List.mem_append_left _ (List.mem_append_left _ (List.mem_append_right _ h))))
set_option maxHeartbeats 1000000 in
set_option maxRecDepth 100000 in
theorem c_X6_setParameter (Γ : gT) (l : Launch) (a : Nat → Nat) (x : Xst) (k : Int32) (v : Int32) (hc : cOk (xChg x)) : Ci Γ l yX6_setParameter wsX6_setParameter rm_X6_setParameter [.ref (a 0), .int k, .int v] (xW Γ a x) (rSetParameter x k v) (xW Γ a (gSetParameter x k v)) := by
  refine Ci.of (cc := cX6_setParameter) (own := RX6) (nL := 4) (ret := (some .int)) (by decide +kernel) rfl rfl (Nat.le_of_ble_eq_true rfl) ?_
  intro p e s m args below meth c A Q H locs ls ha hAe hQ hx hb hml hr hts hown hlk hP hK hD hS hA hG hl
  have hh : Hd Γ p s m args c cX6_setParameter RX6 4 wsX6_setParameter A := ⟨⟨hx, hb, hml, hown, hts⟩, hK, hA, hG⟩
  have hl : lv_has ls 4 [(0, .ref (a 0)), (1, .int k), (2, .int v)] := hl
  refine lv_iload_n hx hb dX6_setParameter_0 rfl (lv_at hl 1 rfl) ?_
  refine lv_iload_n hx hb dX6_setParameter_1 rfl (lv_at hl 2 rfl) ?_
  refine ca_Si hh hl.1 (c_X6_allows Γ l k v) (va_cwS 2 hts gX6_setParameter_X6_allows rfl rfl rfl (by decide +kernel) ⟨(Nat.le_of_ble_eq_true rfl), (Nat.le_of_ble_eq_true rfl)⟩) (As := [.int k, .int v]) (rest := []) rfl dX6_setParameter_2 rfl (Nat.le_of_ble_eq_true rfl) hP hD hS ⟨Nat.zero_le _, Nat.zero_le _⟩ (fun H locs hP hS => ?_)
  refine lv_if_ne (tgt := 11) hx hb dX6_setParameter_5 (by decide) (fun c_5 => ?_) (fun c_5 => ?_)
  · -- yes
    refine lv_aload_n hx hb dX6_setParameter_11 rfl (lv_at hl 0 rfl) ?_
    refine va_get (D := gD Γ) (cl := vwCl) (tys := gTy Γ) (ci := 6) (v := .ref (a 1)) (C := RX6) (T := TX6) (N := 11) hx hb hts iX6_setParameter_6 hown hK hP 0 rfl rfl 0 (Nat.le_of_ble_eq_true rfl) (hts (.fieldLink RX6 12 "DeadTimeLoop" "settings" "LDeadTimeLoop$Settings;") (List.mem_of_getElem? (i := 2) rfl)) (fun _ h9 => h9) rfl dX6_setParameter_12 ?_
    refine lv_iload_n hx hb dX6_setParameter_15 rfl (lv_at hl 1 rfl) ?_
    refine ca_Vi hh hl.1 (c_X3_get Γ l a 1 (xSet x) k) (cwV 1 hts gX6_setParameter_X3_get rfl rfl rfl (by decide +kernel) ⟨(Nat.le_of_ble_eq_true rfl), (Nat.le_of_ble_eq_true rfl)⟩) (As := [.int k]) (rest := []) rfl dX6_setParameter_16 rfl (Nat.le_of_ble_eq_true rfl) hP hD hS [1, 2] rfl (xB_at_settings Γ a _) (q0 := 1) (ci := 3) rfl rfl rfl 2 rfl rfl (wf := xW Γ a x) (xB_up_settings Γ a _ _) (xW_addr _ _ _ _) ⟨Nat.zero_le _, Nat.zero_le _⟩ (fun H locs hP hD hS => ?_)
    refine lv_istore_n (lv' := [(3, .int (fGet (xSet x) k)), (0, .ref (a 0)), (1, .int k), (2, .int v)]) hx hb dX6_setParameter_19 rfl hl (by decide) rfl (fun ls hl => ?_)
    refine lv_aload_n hx hb dX6_setParameter_20 rfl (lv_at hl 1 rfl) ?_
    refine va_get (D := gD Γ) (cl := vwCl) (tys := gTy Γ) (ci := 6) (v := .ref (a 3)) (C := RX6) (T := TX6) (N := 11) hx hb hts iX6_setParameter_6 hown hK hP 0 rfl rfl 1 (Nat.le_of_ble_eq_true rfl) (hts (.fieldLink RX6 19 "DeadTimeLoop" "changes" "LDeadTimeLoop$Changes;") (List.mem_of_getElem? (i := 3) rfl)) (fun _ h9 => h9) rfl dX6_setParameter_21 ?_
    refine lv_aload_n hx hb dX6_setParameter_24 rfl (lv_at hl 1 rfl) ?_
    refine va_get (D := gD Γ) (cl := vwCl) (tys := gTy Γ) (ci := 6) (v := .ref (a 1)) (C := RX6) (T := TX6) (N := 11) hx hb hts iX6_setParameter_6 hown hK hP 0 rfl rfl 0 (Nat.le_of_ble_eq_true rfl) (hts (.fieldLink RX6 12 "DeadTimeLoop" "settings" "LDeadTimeLoop$Settings;") (List.mem_of_getElem? (i := 2) rfl)) (fun _ h9 => h9) rfl dX6_setParameter_25 ?_
    obtain ⟨u_28, eu_28⟩ : ∃ z : Chg, z = cKeep (xChg x) (xSet x) := ⟨_, rfl⟩
    have hM_28 : Cv Γ l yX0_keep wsX0_keep rm_X0_keep [.ref (a 3), .ref (a 1)] (chgW Γ a 3 (xChg x) ++ setW Γ a 1 (xSet x)) (chgW Γ a 3 u_28 ++ setW Γ a 1 (xSet x)) := by rw [eu_28]; exact c_X0_keep Γ l a 3 a 1 (xChg x) (xSet x) hc
    refine ca_Vv hh hl.1 hM_28 (cwV 1 hts gX6_setParameter_X0_keep rfl rfl rfl (by decide +kernel) ⟨(Nat.le_of_ble_eq_true rfl), (Nat.le_of_ble_eq_true rfl)⟩) (As := [.ref (a 1)]) (rest := []) rfl dX6_setParameter_28 rfl (Nat.le_of_ble_eq_true rfl) hP hD hS ([3, 4, 5, 6, 7, 8, 9, 10] ++ [1, 2]) rfl (map_app2 (xB_at_changes Γ a _) (xB_at_settings Γ a _)) (q0 := 3) (ci := 0) rfl rfl rfl 10 rfl rfl (wf := xW Γ a ((xSet x), u_28, (xTxt x), (xLoop x), (xFst x), (xSnd x), (xCnt x), (xTs x), (xIs x), (xTrial x), (xIdeal x))) ((va_upd_app [3, 4, 5, 6, 7, 8, 9, 10] _ _ [1, 2] _ rfl).trans ((congrArg (fun z => va_upd z [1, 2] _) (xB_up_changes Γ a _ _)).trans (xB_up_settings Γ a _ _))) (xW_addr _ _ _ _) ⟨Nat.zero_le _, Nat.zero_le _⟩ (fun H locs hP hD hS => ?_)
    refine lv_aload_n hx hb dX6_setParameter_31 rfl (lv_at hl 1 rfl) ?_
    refine va_get (D := gD Γ) (cl := vwCl) (tys := gTy Γ) (ci := 6) (v := .ref (a 1)) (C := RX6) (T := TX6) (N := 11) hx hb hts iX6_setParameter_6 hown hK hP 0 rfl rfl 0 (Nat.le_of_ble_eq_true rfl) (hts (.fieldLink RX6 12 "DeadTimeLoop" "settings" "LDeadTimeLoop$Settings;") (List.mem_of_getElem? (i := 2) rfl)) (fun _ h9 => h9) rfl dX6_setParameter_32 ?_
    refine lv_iload_n hx hb dX6_setParameter_35 rfl (lv_at hl 2 rfl) ?_
    refine lv_iload_n hx hb dX6_setParameter_36 rfl (lv_at hl 3 rfl) ?_
    obtain ⟨u_37, eu_37⟩ : ∃ z : Sett, z = fSet (xSet x) k v := ⟨_, rfl⟩
    have hM_37 : Cv Γ l yX3_set wsX3_set rm_X3_set [.ref (a 1), .int k, .int v] (setW Γ a 1 (xSet x)) (setW Γ a 1 u_37) := by rw [eu_37]; exact c_X3_set Γ l a 1 (xSet x) k v
    refine ca_Vv hh hl.1 hM_37 (cwV 2 hts gX6_setParameter_X3_set rfl rfl rfl (by decide +kernel) ⟨(Nat.le_of_ble_eq_true rfl), (Nat.le_of_ble_eq_true rfl)⟩) (As := [.int k, .int v]) (rest := []) rfl dX6_setParameter_37 rfl (Nat.le_of_ble_eq_true rfl) hP hD hS [1, 2] rfl (xB_at_settings Γ a _) (q0 := 1) (ci := 3) rfl rfl rfl 2 rfl rfl (wf := xW Γ a (u_37, u_28, (xTxt x), (xLoop x), (xFst x), (xSnd x), (xCnt x), (xTs x), (xIs x), (xTrial x), (xIdeal x))) (xB_up_settings Γ a _ _) (xW_addr _ _ _ _) ⟨Nat.zero_le _, Nat.zero_le _⟩ (fun H locs hP hD hS => ?_)
    refine lv_iload_n hx hb dX6_setParameter_40 rfl (lv_at hl 0 rfl) ?_
    exact re_i hQ ha hx hb hr hlk hAe hP hS dX6_setParameter_41 (by simp only [rSetParameter, c_5, if_true, if_false]) (by simp only [gSetParameter, xPut_settings, xPut_changes, ← eu_28, ← eu_37, c_5, if_true, if_false])
  · -- no
    refine lv_ldc hx hb hown (hts (.constant RX6 63 (-2000000001)) (List.mem_of_getElem? (i := 1) rfl)) dX6_setParameter_8 ?_
    exact re_i hQ ha hx hb hr hlk hAe hP hS dX6_setParameter_10 (by simp only [rSetParameter, c_5, if_true, if_false]) (by simp only [gSetParameter, xPut_settings, xPut_changes, c_5, if_true, if_false])
def rm_X6_undo : Room := { frames := 2, cells := 0, slots := 0, locals := 49 }
theorem iX6_undo_0 : ∀ w ∈ u_ws RX0 TX0 2, w ∈ wsX6_undo := fun w h => (List.mem_cons_of_mem _ (List.mem_append_left _ (List.mem_append_right _ h)))
theorem iX6_undo_6 : ∀ w ∈ u_ws RX6 TX6 11, w ∈ wsX6_undo := fun w h => (List.mem_cons_of_mem _ (List.mem_append_left _ (List.mem_append_left _ (List.mem_append_right _ h))))
set_option maxHeartbeats 1000000 in
set_option maxRecDepth 100000 in
theorem c_X6_undo (Γ : gT) (l : Launch) (a : Nat → Nat) (x : Xst) (hc : cOk (xChg x)) : Ci Γ l yX6_undo wsX6_undo rm_X6_undo [.ref (a 0)] (xW Γ a x) (rUndo x) (xW Γ a (gUndo x)) := by
  refine Ci.of (cc := cX6_undo) (own := RX6) (nL := 1) (ret := (some .int)) (by decide +kernel) rfl rfl (Nat.le_of_ble_eq_true rfl) ?_
  intro p e s m args below meth c A Q H locs ls ha hAe hQ hx hb hml hr hts hown hlk hP hK hD hS hA hG hl
  have hh : Hd Γ p s m args c cX6_undo RX6 1 wsX6_undo A := ⟨⟨hx, hb, hml, hown, hts⟩, hK, hA, hG⟩
  have hl : lv_has ls 1 [(0, .ref (a 0))] := hl
  refine lv_aload_n hx hb dX6_undo_0 rfl (lv_at hl 0 rfl) ?_
  refine va_get (D := gD Γ) (cl := vwCl) (tys := gTy Γ) (ci := 6) (v := .ref (a 3)) (C := RX6) (T := TX6) (N := 11) hx hb hts iX6_undo_6 hown hK hP 0 rfl rfl 1 (Nat.le_of_ble_eq_true rfl) (hts (.fieldLink RX6 19 "DeadTimeLoop" "changes" "LDeadTimeLoop$Changes;") (List.mem_of_getElem? (i := 1) rfl)) (fun _ h9 => h9) rfl dX6_undo_1 ?_
  refine va_get (D := gD Γ) (cl := vwCl) (tys := gTy Γ) (ci := 0) (v := .int (cCnt (xChg x))) (C := RX0) (T := TX0) (N := 2) hx hb hts iX6_undo_0 hown hK hP 3 rfl rfl 1 (Nat.le_of_ble_eq_true rfl) (hts (.fieldLink RX6 95 "DeadTimeLoop$Changes" "count" "I") (List.mem_of_getElem? (i := 2) rfl)) (fun _ h9 => h9) rfl dX6_undo_4 ?_
  refine lv_if_ne (tgt := 13) hx hb dX6_undo_7 (by decide) (fun c_7 => ?_) (fun c_7 => ?_)
  · -- yes
    refine lv_aload_n hx hb dX6_undo_13 rfl (lv_at hl 0 rfl) ?_
    refine va_get (D := gD Γ) (cl := vwCl) (tys := gTy Γ) (ci := 6) (v := .ref (a 3)) (C := RX6) (T := TX6) (N := 11) hx hb hts iX6_undo_6 hown hK hP 0 rfl rfl 1 (Nat.le_of_ble_eq_true rfl) (hts (.fieldLink RX6 19 "DeadTimeLoop" "changes" "LDeadTimeLoop$Changes;") (List.mem_of_getElem? (i := 1) rfl)) (fun _ h9 => h9) rfl dX6_undo_14 ?_
    refine lv_aload_n hx hb dX6_undo_17 rfl (lv_at hl 0 rfl) ?_
    refine va_get (D := gD Γ) (cl := vwCl) (tys := gTy Γ) (ci := 6) (v := .ref (a 1)) (C := RX6) (T := TX6) (N := 11) hx hb hts iX6_undo_6 hown hK hP 0 rfl rfl 0 (Nat.le_of_ble_eq_true rfl) (hts (.fieldLink RX6 12 "DeadTimeLoop" "settings" "LDeadTimeLoop$Settings;") (List.mem_of_getElem? (i := 4) rfl)) (fun _ h9 => h9) rfl dX6_undo_18 ?_
    obtain ⟨u_21, eu_21⟩ : ∃ z : Chg, z = cBackC (xChg x) := ⟨_, rfl⟩
    obtain ⟨u_21b, eu_21b⟩ : ∃ z : Sett, z = cBackV (xChg x) (xSet x) := ⟨_, rfl⟩
    have hM_21 : Cv Γ l yX0_takeBack wsX0_takeBack rm_X0_takeBack [.ref (a 3), .ref (a 1)] (chgW Γ a 3 (xChg x) ++ setW Γ a 1 (xSet x)) (chgW Γ a 3 u_21 ++ setW Γ a 1 u_21b) := by rw [eu_21, eu_21b]; exact c_X0_takeBack Γ l a 3 a 1 (xChg x) (xSet x) hc
    refine ca_Vv hh hl.1 hM_21 (cwV 1 hts gX6_undo_X0_takeBack rfl rfl rfl (by decide +kernel) ⟨(Nat.le_of_ble_eq_true rfl), (Nat.le_of_ble_eq_true rfl)⟩) (As := [.ref (a 1)]) (rest := []) rfl dX6_undo_21 rfl (Nat.le_of_ble_eq_true rfl) hP hD hS ([3, 4, 5, 6, 7, 8, 9, 10] ++ [1, 2]) rfl (map_app2 (xB_at_changes Γ a _) (xB_at_settings Γ a _)) (q0 := 3) (ci := 0) rfl rfl rfl 10 rfl rfl (wf := xW Γ a (u_21b, u_21, (xTxt x), (xLoop x), (xFst x), (xSnd x), (xCnt x), (xTs x), (xIs x), (xTrial x), (xIdeal x))) ((va_upd_app [3, 4, 5, 6, 7, 8, 9, 10] _ _ [1, 2] _ rfl).trans ((congrArg (fun z => va_upd z [1, 2] _) (xB_up_changes Γ a _ _)).trans (xB_up_settings Γ a _ _))) (xW_addr _ _ _ _) ⟨Nat.zero_le _, Nat.zero_le _⟩ (fun H locs hP hD hS => ?_)
    refine lv_aload_n hx hb dX6_undo_24 rfl (lv_at hl 0 rfl) ?_
    refine va_get (D := gD Γ) (cl := vwCl) (tys := gTy Γ) (ci := 6) (v := .ref (a 3)) (C := RX6) (T := TX6) (N := 11) hx hb hts iX6_undo_6 hown hK hP 0 rfl rfl 1 (Nat.le_of_ble_eq_true rfl) (hts (.fieldLink RX6 19 "DeadTimeLoop" "changes" "LDeadTimeLoop$Changes;") (List.mem_of_getElem? (i := 1) rfl)) (fun _ h9 => h9) rfl dX6_undo_25 ?_
    refine va_get (D := gD Γ) (cl := vwCl) (tys := gTy Γ) (ci := 0) (v := .int (cCnt u_21)) (C := RX0) (T := TX0) (N := 2) hx hb hts iX6_undo_0 hown hK hP 3 rfl rfl 1 (Nat.le_of_ble_eq_true rfl) (hts (.fieldLink RX6 95 "DeadTimeLoop$Changes" "count" "I") (List.mem_of_getElem? (i := 2) rfl)) (fun _ h9 => h9) rfl dX6_undo_28 ?_
    exact re_i hQ ha hx hb hr hlk hAe hP hS dX6_undo_31 (by simp only [rUndo, ← eu_21, ← eu_21b, c_7, if_true, if_false]) (by simp only [gUndo, xPut_settings, xPut_changes, ← eu_21, ← eu_21b, c_7, if_true, if_false])
  · -- no
    refine lv_ldc hx hb hown (hts (.constant RX6 98 (-2000000002)) (List.mem_of_getElem? (i := 3) rfl)) dX6_undo_10 ?_
    exact re_i hQ ha hx hb hr hlk hAe hP hS dX6_undo_12 (by simp only [rUndo, c_7, if_true, if_false]) (by simp only [gUndo, xPut_settings, xPut_changes, c_7, if_true, if_false])
def rm_X6_setSetpoint : Room := { frames := 2, cells := 0, slots := 0, locals := 43 }
theorem iX6_setSetpoint_6 : ∀ w ∈ u_ws RX6 TX6 11, w ∈ wsX6_setSetpoint := fun w h => (List.mem_cons_of_mem _ (List.mem_append_left _ (List.mem_append_left _ (List.mem_append_right _ h))))
set_option maxHeartbeats 1000000 in
set_option maxRecDepth 100000 in
theorem c_X6_setSetpoint (Γ : gT) (l : Launch) (a : Nat → Nat) (x : Xst) (v : Int32)  : Ci Γ l yX6_setSetpoint wsX6_setSetpoint rm_X6_setSetpoint [.ref (a 0), .int v] (xW Γ a x) (rSetSetpoint x v) (xW Γ a (gSetSetpoint x v)) := by
  refine Ci.of (cc := cX6_setSetpoint) (own := RX6) (nL := 2) (ret := (some .int)) (by decide +kernel) rfl rfl (Nat.le_of_ble_eq_true rfl) ?_
  intro p e s m args below meth c A Q H locs ls ha hAe hQ hx hb hml hr hts hown hlk hP hK hD hS hA hG hl
  have hh : Hd Γ p s m args c cX6_setSetpoint RX6 2 wsX6_setSetpoint A := ⟨⟨hx, hb, hml, hown, hts⟩, hK, hA, hG⟩
  have hl : lv_has ls 2 [(0, .ref (a 0)), (1, .int v)] := hl
  refine lv_iload_n hx hb dX6_setSetpoint_0 rfl (lv_at hl 1 rfl) ?_
  refine ca_Si hh hl.1 (c_X6_isLevel Γ l v) (va_cwS 1 hts gX6_setSetpoint_X6_isLevel rfl rfl rfl (by decide +kernel) ⟨(Nat.le_of_ble_eq_true rfl), (Nat.le_of_ble_eq_true rfl)⟩) (As := [.int v]) (rest := []) rfl dX6_setSetpoint_1 rfl (Nat.le_of_ble_eq_true rfl) hP hD hS ⟨Nat.zero_le _, Nat.zero_le _⟩ (fun H locs hP hS => ?_)
  refine lv_if_eq (tgt := 18) hx hb dX6_setSetpoint_4 (by decide) (fun c_4 => ?_) (fun c_4 => ?_)
  · -- yes
    refine lv_ldc hx hb hown (hts (.constant RX6 63 (-2000000001)) (List.mem_of_getElem? (i := 2) rfl)) dX6_setSetpoint_18 ?_
    exact re_i hQ ha hx hb hr hlk hAe hP hS dX6_setSetpoint_20 (by simp only [rSetSetpoint, c_4, if_true, if_false]) (by simp only [gSetSetpoint, xPut_loop, c_4, if_true, if_false])
  · -- no
    refine lv_aload_n hx hb dX6_setSetpoint_7 rfl (lv_at hl 0 rfl) ?_
    refine va_get (D := gD Γ) (cl := vwCl) (tys := gTy Γ) (ci := 6) (v := .ref (a 15)) (C := RX6) (T := TX6) (N := 11) hx hb hts iX6_setSetpoint_6 hown hK hP 0 rfl rfl 3 (Nat.le_of_ble_eq_true rfl) (hts (.fieldLink RX6 33 "DeadTimeLoop" "loop" "LDeadTimeLoop$Loop;") (List.mem_of_getElem? (i := 1) rfl)) (fun _ h9 => h9) rfl dX6_setSetpoint_8 ?_
    refine lv_iload_n hx hb dX6_setSetpoint_11 rfl (lv_at hl 1 rfl) ?_
    obtain ⟨u_12, eu_12⟩ : ∃ z : Lop, z = fSetR (xLoop x) v := ⟨_, rfl⟩
    have hM_12 : Ci Γ l yX1_changeSetpoint wsX1_changeSetpoint rm_X1_changeSetpoint [.ref (a 15), .int v] (lopW Γ a 15 (xLoop x)) (((lPres (xLoop x)) 0)) (lopW Γ a 15 u_12) := by rw [eu_12]; exact c_X1_changeSetpoint Γ l a 15 (xLoop x) v
    refine ca_Vi hh hl.1 hM_12 (cwV 1 hts gX6_setSetpoint_X1_changeSetpoint rfl rfl rfl (by decide +kernel) ⟨(Nat.le_of_ble_eq_true rfl), (Nat.le_of_ble_eq_true rfl)⟩) (As := [.int v]) (rest := []) rfl dX6_setSetpoint_12 rfl (Nat.le_of_ble_eq_true rfl) hP hD hS [15, 16, 17, 18, 19, 20, 21, 22, 23] rfl (xB_at_loop Γ a _) (q0 := 15) (ci := 1) rfl rfl rfl 9 rfl rfl (wf := xW Γ a ((xSet x), (xChg x), (xTxt x), u_12, (xFst x), (xSnd x), (xCnt x), (xTs x), (xIs x), (xTrial x), (xIdeal x))) (xB_up_loop Γ a _ _) (xW_addr _ _ _ _) ⟨Nat.zero_le _, Nat.zero_le _⟩ (fun H locs hP hD hS => ?_)
    refine lv_goto (tgt := 20) hx hb dX6_setSetpoint_15 (by decide) ?_
    exact re_i hQ ha hx hb hr hlk hAe hP hS dX6_setSetpoint_20 (by simp only [rSetSetpoint, ← eu_12, c_4, if_true, if_false]) (by simp only [gSetSetpoint, xPut_loop, ← eu_12, c_4, if_true, if_false])
def rm_X6_setLoad : Room := { frames := 1, cells := 0, slots := 0, locals := 20 }
theorem iX6_setLoad_1 : ∀ w ∈ u_ws RX1 TX1 9, w ∈ wsX6_setLoad := fun w h => (List.mem_cons_of_mem _ (List.mem_append_right _ h))
theorem iX6_setLoad_6 : ∀ w ∈ u_ws RX6 TX6 11, w ∈ wsX6_setLoad := fun w h => (List.mem_cons_of_mem _ (List.mem_append_left _ (List.mem_append_right _ h)))
set_option maxHeartbeats 1000000 in
set_option maxRecDepth 100000 in
theorem c_X6_setLoad (Γ : gT) (l : Launch) (a : Nat → Nat) (x : Xst) (v : Int32)  : Ci Γ l yX6_setLoad wsX6_setLoad rm_X6_setLoad [.ref (a 0), .int v] (xW Γ a x) (rSetLoad x v) (xW Γ a (gSetLoad x v)) := by
  refine Ci.of (cc := cX6_setLoad) (own := RX6) (nL := 3) (ret := (some .int)) (by decide +kernel) rfl rfl (Nat.le_of_ble_eq_true rfl) ?_
  intro p e s m args below meth c A Q H locs ls ha hAe hQ hx hb hml hr hts hown hlk hP hK hD hS hA hG hl
  have hh : Hd Γ p s m args c cX6_setLoad RX6 3 wsX6_setLoad A := ⟨⟨hx, hb, hml, hown, hts⟩, hK, hA, hG⟩
  have hl : lv_has ls 3 [(0, .ref (a 0)), (1, .int v)] := hl
  refine lv_iload_n hx hb dX6_setLoad_0 rfl (lv_at hl 1 rfl) ?_
  refine ca_Si hh hl.1 (c_X6_isLevel Γ l v) (va_cwS 1 hts gX6_setLoad_X6_isLevel rfl rfl rfl (by decide +kernel) ⟨(Nat.le_of_ble_eq_true rfl), (Nat.le_of_ble_eq_true rfl)⟩) (As := [.int v]) (rest := []) rfl dX6_setLoad_1 rfl (Nat.le_of_ble_eq_true rfl) hP hD hS ⟨Nat.zero_le _, Nat.zero_le _⟩ (fun H locs hP hS => ?_)
  refine lv_if_ne (tgt := 10) hx hb dX6_setLoad_4 (by decide) (fun c_4 => ?_) (fun c_4 => ?_)
  · -- yes
    refine lv_aload_n hx hb dX6_setLoad_10 rfl (lv_at hl 0 rfl) ?_
    refine va_get (D := gD Γ) (cl := vwCl) (tys := gTy Γ) (ci := 6) (v := .ref (a 15)) (C := RX6) (T := TX6) (N := 11) hx hb hts iX6_setLoad_6 hown hK hP 0 rfl rfl 3 (Nat.le_of_ble_eq_true rfl) (hts (.fieldLink RX6 33 "DeadTimeLoop" "loop" "LDeadTimeLoop$Loop;") (List.mem_of_getElem? (i := 2) rfl)) (fun _ h9 => h9) rfl dX6_setLoad_11 ?_
    refine va_get (D := gD Γ) (cl := vwCl) (tys := gTy Γ) (ci := 1) (v := .int (lLoad (xLoop x))) (C := RX1) (T := TX1) (N := 9) hx hb hts iX6_setLoad_1 hown hK hP 15 rfl rfl 1 (Nat.le_of_ble_eq_true rfl) (hts (.fieldLink RX6 108 "DeadTimeLoop$Loop" "load" "I") (List.mem_of_getElem? (i := 3) rfl)) (fun _ h9 => h9) rfl dX6_setLoad_14 ?_
    refine lv_istore_n (lv' := [(2, .int (lLoad (xLoop x))), (0, .ref (a 0)), (1, .int v)]) hx hb dX6_setLoad_17 rfl hl (by decide) rfl (fun ls hl => ?_)
    refine lv_aload_n hx hb dX6_setLoad_18 rfl (lv_at hl 1 rfl) ?_
    refine va_get (D := gD Γ) (cl := vwCl) (tys := gTy Γ) (ci := 6) (v := .ref (a 15)) (C := RX6) (T := TX6) (N := 11) hx hb hts iX6_setLoad_6 hown hK hP 0 rfl rfl 3 (Nat.le_of_ble_eq_true rfl) (hts (.fieldLink RX6 33 "DeadTimeLoop" "loop" "LDeadTimeLoop$Loop;") (List.mem_of_getElem? (i := 2) rfl)) (fun _ h9 => h9) rfl dX6_setLoad_19 ?_
    refine lv_iload_n hx hb dX6_setLoad_22 rfl (lv_at hl 2 rfl) ?_
    refine va_put (D := gD Γ) (cl := vwCl) (tys := gTy Γ) (ci := 1) (v := .int v) (ty := tyX1 1) (C := RX1) (T := TX1) (N := 9) hx hb hts iX6_setLoad_1 tyX1 tyX1_ok nmX1 hown hK hP hD hS 15 rfl rfl 1 (Nat.le_of_ble_eq_true rfl) (hts (.fieldLink RX6 108 "DeadTimeLoop$Loop" "load" "I") (List.mem_of_getElem? (i := 3) rfl)) (fun _ h9 => h9) rfl (tyX1_ok 1 (Nat.le_of_ble_eq_true rfl)) rfl rfl (Nat.le_of_ble_eq_true rfl) dX6_setLoad_23 (fun H locs hP hD hS => ?_)
    have hP : va_P (gD Γ) vwCl (xW Γ a ((xSet x), (xChg x), (xTxt x), ((lNow (xLoop x)), v, (lSeed (xLoop x)), (lBad (xLoop x)), (lGood (xLoop x)), (lPres (xLoop x)), (lRecs (xLoop x)), (lSec (xLoop x)), (lWat (xLoop x))), (xFst x), (xSnd x), (xCnt x), (xTs x), (xIs x), (xTrial x), (xIdeal x))) H := hP
    have hD : va_D A (xW Γ a ((xSet x), (xChg x), (xTxt x), ((lNow (xLoop x)), v, (lSeed (xLoop x)), (lBad (xLoop x)), (lGood (xLoop x)), (lPres (xLoop x)), (lRecs (xLoop x)), (lSec (xLoop x)), (lWat (xLoop x))), (xFst x), (xSnd x), (xCnt x), (xTs x), (xIs x), (xTrial x), (xIdeal x))) := hD
    refine lv_iload_n hx hb dX6_setLoad_26 rfl (lv_at hl 0 rfl) ?_
    exact re_i hQ ha hx hb hr hlk hAe hP hS dX6_setLoad_27 (by simp only [rSetLoad, c_4, if_true, if_false]) (by simp only [gSetLoad, xPut_loop, lPut_load, c_4, if_true, if_false])
  · -- no
    refine lv_ldc hx hb hown (hts (.constant RX6 63 (-2000000001)) (List.mem_of_getElem? (i := 1) rfl)) dX6_setLoad_7 ?_
    exact re_i hQ ha hx hb hr hlk hAe hP hS dX6_setLoad_9 (by simp only [rSetLoad, c_4, if_true, if_false]) (by simp only [gSetLoad, xPut_loop, lPut_load, c_4, if_true, if_false])
def rm_X6_value : Room := { frames := 1, cells := 0, slots := 0, locals := 20 }
theorem iX6_value_1 : ∀ w ∈ u_ws RX1 TX1 9, w ∈ wsX6_value := fun w h => (List.mem_cons_of_mem _ (List.mem_append_right _ h))
theorem iX6_value_6 : ∀ w ∈ u_ws RX6 TX6 11, w ∈ wsX6_value := fun w h => (List.mem_cons_of_mem _ (List.mem_append_left _ (List.mem_append_right _ h)))
set_option maxHeartbeats 1000000 in
set_option maxRecDepth 100000 in
theorem c_X6_value (Γ : gT) (l : Launch) (a : Nat → Nat) (x : Xst) (s1 : Int32)  : Ci Γ l yX6_value wsX6_value rm_X6_value [.ref (a 0), .int s1] (xW Γ a x) (rValue x s1) (xW Γ a x) := by
  refine Ci.of (cc := cX6_value) (own := RX6) (nL := 2) (ret := (some .int)) (by decide +kernel) rfl rfl (Nat.le_of_ble_eq_true rfl) ?_
  intro p e s m args below meth c A Q H locs ls ha hAe hQ hx hb hml hr hts hown hlk hP hK hD hS hA hG hl
  have hh : Hd Γ p s m args c cX6_value RX6 2 wsX6_value A := ⟨⟨hx, hb, hml, hown, hts⟩, hK, hA, hG⟩
  have hl : lv_has ls 2 [(0, .ref (a 0)), (1, .int s1)] := hl
  refine lv_iload_n hx hb dX6_value_0 rfl (lv_at hl 1 rfl) ?_
  refine ca_Si hh hl.1 (c_X6_isSignal Γ l s1) (va_cwS 1 hts gX6_value_X6_isSignal rfl rfl rfl (by decide +kernel) ⟨(Nat.le_of_ble_eq_true rfl), (Nat.le_of_ble_eq_true rfl)⟩) (As := [.int s1]) (rest := []) rfl dX6_value_1 rfl (Nat.le_of_ble_eq_true rfl) hP hD hS ⟨Nat.zero_le _, Nat.zero_le _⟩ (fun H locs hP hS => ?_)
  refine lv_if_eq (tgt := 19) hx hb dX6_value_4 (by decide) (fun c_4 => ?_) (fun c_4 => ?_)
  · -- yes
    refine lv_ldc hx hb hown (hts (.constant RX6 63 (-2000000001)) (List.mem_of_getElem? (i := 3) rfl)) dX6_value_19 ?_
    exact re_i hQ ha hx hb hr hlk hAe hP hS dX6_value_21 (by simp only [rValue, c_4, if_true, if_false]) rfl
  · -- no
    refine lv_aload_n hx hb dX6_value_7 rfl (lv_at hl 0 rfl) ?_
    refine va_get (D := gD Γ) (cl := vwCl) (tys := gTy Γ) (ci := 6) (v := .ref (a 15)) (C := RX6) (T := TX6) (N := 11) hx hb hts iX6_value_6 hown hK hP 0 rfl rfl 3 (Nat.le_of_ble_eq_true rfl) (hts (.fieldLink RX6 33 "DeadTimeLoop" "loop" "LDeadTimeLoop$Loop;") (List.mem_of_getElem? (i := 1) rfl)) (fun _ h9 => h9) rfl dX6_value_8 ?_
    refine va_get (D := gD Γ) (cl := vwCl) (tys := gTy Γ) (ci := 1) (v := .ref (a 16)) (C := RX1) (T := TX1) (N := 9) hx hb hts iX6_value_1 hown hK hP 15 rfl rfl 5 (Nat.le_of_ble_eq_true rfl) (hts (.fieldLink RX6 145 "DeadTimeLoop$Loop" "present" "[I") (List.mem_of_getElem? (i := 2) rfl)) (fun _ h9 => h9) rfl dX6_value_11 ?_
    refine lv_iload_n hx hb dX6_value_14 rfl (lv_at hl 1 rfl) ?_
    refine ka_iald (D := gD Γ) (cl := vwCl) (tys := gTy Γ) hx hb hK hP 16 0 rfl rfl (s1.toNatClampNeg) (nI_of_in (fSig_in c_4) (by decide)) (in_lt (fSig_in c_4)) (by decide) (v := ((lPres (xLoop x)) s1.toNatClampNeg)) rfl dX6_value_15 ?_
    refine lv_goto (tgt := 21) hx hb dX6_value_16 (by decide) ?_
    exact re_i hQ ha hx hb hr hlk hAe hP hS dX6_value_21 (by simp only [rValue, c_4, if_true, if_false]) rfl
def rm_X6_recorded : Room := { frames := 2, cells := 0, slots := 0, locals := 44 }
theorem iX6_recorded_1 : ∀ w ∈ u_ws RX1 TX1 9, w ∈ wsX6_recorded := fun w h => (List.mem_cons_of_mem _ (List.mem_append_right _ h))
theorem iX6_recorded_6 : ∀ w ∈ u_ws RX6 TX6 11, w ∈ wsX6_recorded := fun w h => (List.mem_cons_of_mem _ (List.mem_append_left _ (List.mem_append_right _ h)))
set_option maxHeartbeats 1000000 in
set_option maxRecDepth 100000 in
theorem c_X6_recorded (Γ : gT) (l : Launch) (a : Nat → Nat) (x : Xst) (s1 : Int32) (ago : Int32)  : Ci Γ l yX6_recorded wsX6_recorded rm_X6_recorded [.ref (a 0), .int s1, .int ago] (xW Γ a x) (rRecorded x s1 ago) (xW Γ a x) := by
  refine Ci.of (cc := cX6_recorded) (own := RX6) (nL := 3) (ret := (some .int)) (by decide +kernel) rfl rfl (Nat.le_of_ble_eq_true rfl) ?_
  intro p e s m args below meth c A Q H locs ls ha hAe hQ hx hb hml hr hts hown hlk hP hK hD hS hA hG hl
  have hh : Hd Γ p s m args c cX6_recorded RX6 3 wsX6_recorded A := ⟨⟨hx, hb, hml, hown, hts⟩, hK, hA, hG⟩
  have hl : lv_has ls 3 [(0, .ref (a 0)), (1, .int s1), (2, .int ago)] := hl
  refine lv_iload_n hx hb dX6_recorded_0 rfl (lv_at hl 1 rfl) ?_
  refine ca_Si hh hl.1 (c_X6_isSignal Γ l s1) (va_cwS 1 hts gX6_recorded_X6_isSignal rfl rfl rfl (by decide +kernel) ⟨(Nat.le_of_ble_eq_true rfl), (Nat.le_of_ble_eq_true rfl)⟩) (As := [.int s1]) (rest := []) rfl dX6_recorded_1 rfl (Nat.le_of_ble_eq_true rfl) hP hD hS ⟨Nat.zero_le _, Nat.zero_le _⟩ (fun H locs hP hS => ?_)
  refine lv_if_eq (tgt := 17) hx hb dX6_recorded_4 (by decide) (fun c_4 => ?_) (fun c_4 => ?_)
  · -- yes
    refine lv_ldc hx hb hown (hts (.constant RX6 63 (-2000000001)) (List.mem_of_getElem? (i := 1) rfl)) dX6_recorded_17 ?_
    exact re_i hQ ha hx hb hr hlk hAe hP hS dX6_recorded_19 (by simp only [rRecorded, c_4, if_true, if_false]) rfl
  · -- no
    refine lv_iload_n hx hb dX6_recorded_7 rfl (lv_at hl 2 rfl) ?_
    refine lv_if_lt (tgt := 17) hx hb dX6_recorded_8 (by decide) (fun c_8 => ?_) (fun c_8 => ?_)
    · -- yes
      refine lv_ldc hx hb hown (hts (.constant RX6 63 (-2000000001)) (List.mem_of_getElem? (i := 1) rfl)) dX6_recorded_17 ?_
      exact re_i hQ ha hx hb hr hlk hAe hP hS dX6_recorded_19 (by simp only [rRecorded, c_4, c_8, if_true, if_false]) rfl
    · -- no
      refine lv_iload_n hx hb dX6_recorded_11 rfl (lv_at hl 2 rfl) ?_
      refine lv_bipush (v := 64) hx hb dX6_recorded_12 (by decide) ?_
      refine lv_icmp_lt (tgt := 20) hx hb dX6_recorded_14 (by decide) (fun c_14 => ?_) (fun c_14 => ?_)
      · -- yes
        refine lv_iload_n hx hb dX6_recorded_20 rfl (lv_at hl 2 rfl) ?_
        refine lv_aload_n hx hb dX6_recorded_21 rfl (lv_at hl 0 rfl) ?_
        refine va_get (D := gD Γ) (cl := vwCl) (tys := gTy Γ) (ci := 6) (v := .ref (a 15)) (C := RX6) (T := TX6) (N := 11) hx hb hts iX6_recorded_6 hown hK hP 0 rfl rfl 3 (Nat.le_of_ble_eq_true rfl) (hts (.fieldLink RX6 33 "DeadTimeLoop" "loop" "LDeadTimeLoop$Loop;") (List.mem_of_getElem? (i := 2) rfl)) (fun _ h9 => h9) rfl dX6_recorded_22 ?_
        refine va_get (D := gD Γ) (cl := vwCl) (tys := gTy Γ) (ci := 1) (v := .int (lNow (xLoop x))) (C := RX1) (T := TX1) (N := 9) hx hb hts iX6_recorded_1 hown hK hP 15 rfl rfl 0 (Nat.le_of_ble_eq_true rfl) (hts (.fieldLink RX6 135 "DeadTimeLoop$Loop" "now" "I") (List.mem_of_getElem? (i := 3) rfl)) (fun _ h9 => h9) rfl dX6_recorded_25 ?_
        refine lv_icmp_ge (tgt := 53) hx hb dX6_recorded_28 (by decide) (fun c_28 => ?_) (fun c_28 => ?_)
        · -- yes
          refine lv_ldc hx hb hown (hts (.constant RX6 94 (-2000000004)) (List.mem_of_getElem? (i := 4) rfl)) dX6_recorded_53 ?_
          exact re_i hQ ha hx hb hr hlk hAe hP hS dX6_recorded_55 (by simp only [rRecorded, c_4, c_8, c_14, c_28, if_true, if_false]) rfl
        · -- no
          refine lv_aload_n hx hb dX6_recorded_31 rfl (lv_at hl 0 rfl) ?_
          refine va_get (D := gD Γ) (cl := vwCl) (tys := gTy Γ) (ci := 6) (v := .ref (a 15)) (C := RX6) (T := TX6) (N := 11) hx hb hts iX6_recorded_6 hown hK hP 0 rfl rfl 3 (Nat.le_of_ble_eq_true rfl) (hts (.fieldLink RX6 33 "DeadTimeLoop" "loop" "LDeadTimeLoop$Loop;") (List.mem_of_getElem? (i := 2) rfl)) (fun _ h9 => h9) rfl dX6_recorded_32 ?_
          refine lv_iload_n hx hb dX6_recorded_35 rfl (lv_at hl 1 rfl) ?_
          refine lv_aload_n hx hb dX6_recorded_36 rfl (lv_at hl 0 rfl) ?_
          refine va_get (D := gD Γ) (cl := vwCl) (tys := gTy Γ) (ci := 6) (v := .ref (a 15)) (C := RX6) (T := TX6) (N := 11) hx hb hts iX6_recorded_6 hown hK hP 0 rfl rfl 3 (Nat.le_of_ble_eq_true rfl) (hts (.fieldLink RX6 33 "DeadTimeLoop" "loop" "LDeadTimeLoop$Loop;") (List.mem_of_getElem? (i := 2) rfl)) (fun _ h9 => h9) rfl dX6_recorded_37 ?_
          refine va_get (D := gD Γ) (cl := vwCl) (tys := gTy Γ) (ci := 1) (v := .int (lNow (xLoop x))) (C := RX1) (T := TX1) (N := 9) hx hb hts iX6_recorded_1 hown hK hP 15 rfl rfl 0 (Nat.le_of_ble_eq_true rfl) (hts (.fieldLink RX6 135 "DeadTimeLoop$Loop" "now" "I") (List.mem_of_getElem? (i := 3) rfl)) (fun _ h9 => h9) rfl dX6_recorded_40 ?_
          refine lv_iconst (v := 1) hx hb dX6_recorded_43 (by decide) ?_
          refine lv_isub hx hb dX6_recorded_44 ?_
          refine lv_iload_n hx hb dX6_recorded_45 rfl (lv_at hl 2 rfl) ?_
          refine lv_isub hx hb dX6_recorded_46 ?_
          refine ca_Vi hh hl.1 (c_X1_recordOf Γ l a 15 (xLoop x) s1 (((lNow (xLoop x)) - 1) - ago)) (cwV 2 hts gX6_recorded_X1_recordOf rfl rfl rfl (by decide +kernel) ⟨(Nat.le_of_ble_eq_true rfl), (Nat.le_of_ble_eq_true rfl)⟩) (As := [.int s1, .int (((lNow (xLoop x)) - 1) - ago)]) (rest := []) rfl dX6_recorded_47 rfl (Nat.le_of_ble_eq_true rfl) hP hD hS [15, 16, 17, 18, 19, 20, 21, 22, 23] rfl (xB_at_loop Γ a _) (q0 := 15) (ci := 1) rfl rfl rfl 9 rfl rfl (wf := xW Γ a x) (xB_up_loop Γ a _ _) (xW_addr _ _ _ _) ⟨Nat.zero_le _, Nat.zero_le _⟩ (fun H locs hP hD hS => ?_)
          refine lv_topi (fun r_47 er_47 => ?_)
          have er_47 : r_47 = (fRec (lNow (xLoop x)) (lRecs (xLoop x)) s1 (((lNow (xLoop x)) - 1) - ago)) := er_47
          refine lv_goto (tgt := 55) hx hb dX6_recorded_50 (by decide) ?_
          exact re_i hQ ha hx hb hr hlk hAe hP hS dX6_recorded_55 (by simp only [rRecorded, ← er_47, c_4, c_8, c_14, c_28, if_true, if_false]) rfl
      · -- no
        refine lv_ldc hx hb hown (hts (.constant RX6 63 (-2000000001)) (List.mem_of_getElem? (i := 1) rfl)) dX6_recorded_17 ?_
        exact re_i hQ ha hx hb hr hlk hAe hP hS dX6_recorded_19 (by simp only [rRecorded, c_4, c_8, c_14, if_true, if_false]) rfl
def rm_X6_measure : Room := { frames := 0, cells := 0, slots := 0, locals := 0 }
theorem iX6_measure_1 : ∀ w ∈ u_ws RX1 TX1 9, w ∈ wsX6_measure := fun w h => (List.mem_cons_of_mem _ (List.mem_append_left _ (List.mem_append_right _ h)))
theorem iX6_measure_2 : ∀ w ∈ u_ws RX2 TX2 5, w ∈ wsX6_measure := fun w h => (List.mem_cons_of_mem _ (List.mem_append_right _ h))
theorem iX6_measure_6 : ∀ w ∈ u_ws RX6 TX6 11, w ∈ wsX6_measure := fun w h => (List.mem_cons_of_mem _ (List.mem_append_left _ (List.mem_append_left _ (List.mem_append_right _ h))))
set_option maxHeartbeats 1000000 in
set_option maxRecDepth 100000 in
theorem c_X6_measure (Γ : gT) (l : Launch) (a : Nat → Nat) (x : Xst) (k : Int32)  : Cl Γ l yX6_measure wsX6_measure rm_X6_measure [.ref (a 0), .int k] (xW Γ a x) (rMeasure x k) (xW Γ a x) := by
  refine Cl.of (cc := cX6_measure) (own := RX6) (nL := 2) (ret := (some .long)) (by decide +kernel) rfl rfl (Nat.le_of_ble_eq_true rfl) ?_
  intro p e s m args below meth c A Q H locs ls ha hAe hQ hx hb hml hr hts hown hlk hP hK hD hS hA hG hl
  have hh : Hd Γ p s m args c cX6_measure RX6 2 wsX6_measure A := ⟨⟨hx, hb, hml, hown, hts⟩, hK, hA, hG⟩
  have hl : lv_has ls 2 [(0, .ref (a 0)), (1, .int k)] := hl
  refine lv_iload_n hx hb dX6_measure_0 rfl (lv_at hl 1 rfl) ?_
  by_cases t_1_0 : k = 0
  · --
    refine lv_tableIn (tgt := 32) (off := 31) hx hb dX6_measure_1 (by rw [t_1_0]; decide) (by rw [t_1_0]; decide) (by rw [t_1_0]; rfl) (by decide) ?_
    refine lv_aload_n hx hb dX6_measure_32 rfl (lv_at hl 0 rfl) ?_
    refine va_get (D := gD Γ) (cl := vwCl) (tys := gTy Γ) (ci := 6) (v := .ref (a 15)) (C := RX6) (T := TX6) (N := 11) hx hb hts iX6_measure_6 hown hK hP 0 rfl rfl 3 (Nat.le_of_ble_eq_true rfl) (hts (.fieldLink RX6 33 "DeadTimeLoop" "loop" "LDeadTimeLoop$Loop;") (List.mem_of_getElem? (i := 1) rfl)) (fun _ h9 => h9) rfl dX6_measure_33 ?_
    refine va_get (D := gD Γ) (cl := vwCl) (tys := gTy Γ) (ci := 1) (v := .ref (a 18)) (C := RX1) (T := TX1) (N := 9) hx hb hts iX6_measure_1 hown hK hP 15 rfl rfl 7 (Nat.le_of_ble_eq_true rfl) (hts (.fieldLink RX6 180 "DeadTimeLoop$Loop" "section" "LDeadTimeLoop$Section;") (List.mem_of_getElem? (i := 2) rfl)) (fun _ h9 => h9) rfl dX6_measure_36 ?_
    refine va_get (D := gD Γ) (cl := vwCl) (tys := gTy Γ) (ci := 2) (v := .long (sErr (lSec (xLoop x)))) (C := RX2) (T := TX2) (N := 5) hx hb hts iX6_measure_2 hown hK hP 18 rfl rfl 0 (Nat.le_of_ble_eq_true rfl) (hts (.fieldLink RX6 184 "DeadTimeLoop$Section" "errorSum" "J") (List.mem_of_getElem? (i := 3) rfl)) (fun _ h9 => h9) rfl dX6_measure_39 ?_
    exact re_l hQ ha hx hb hr hlk hAe hP hS dX6_measure_42 (by simp [rMeasure, t_1_0]) rfl
  by_cases t_1_1 : k = 1
  · --
    refine lv_tableIn (tgt := 43) (off := 42) hx hb dX6_measure_1 (by rw [t_1_1]; decide) (by rw [t_1_1]; decide) (by rw [t_1_1]; rfl) (by decide) ?_
    refine lv_aload_n hx hb dX6_measure_43 rfl (lv_at hl 0 rfl) ?_
    refine va_get (D := gD Γ) (cl := vwCl) (tys := gTy Γ) (ci := 6) (v := .ref (a 15)) (C := RX6) (T := TX6) (N := 11) hx hb hts iX6_measure_6 hown hK hP 0 rfl rfl 3 (Nat.le_of_ble_eq_true rfl) (hts (.fieldLink RX6 33 "DeadTimeLoop" "loop" "LDeadTimeLoop$Loop;") (List.mem_of_getElem? (i := 1) rfl)) (fun _ h9 => h9) rfl dX6_measure_44 ?_
    refine va_get (D := gD Γ) (cl := vwCl) (tys := gTy Γ) (ci := 1) (v := .ref (a 18)) (C := RX1) (T := TX1) (N := 9) hx hb hts iX6_measure_1 hown hK hP 15 rfl rfl 7 (Nat.le_of_ble_eq_true rfl) (hts (.fieldLink RX6 180 "DeadTimeLoop$Loop" "section" "LDeadTimeLoop$Section;") (List.mem_of_getElem? (i := 2) rfl)) (fun _ h9 => h9) rfl dX6_measure_47 ?_
    refine va_get (D := gD Γ) (cl := vwCl) (tys := gTy Γ) (ci := 2) (v := .long (sEff (lSec (xLoop x)))) (C := RX2) (T := TX2) (N := 5) hx hb hts iX6_measure_2 hown hK hP 18 rfl rfl 1 (Nat.le_of_ble_eq_true rfl) (hts (.fieldLink RX6 190 "DeadTimeLoop$Section" "effort" "J") (List.mem_of_getElem? (i := 4) rfl)) (fun _ h9 => h9) rfl dX6_measure_50 ?_
    exact re_l hQ ha hx hb hr hlk hAe hP hS dX6_measure_53 (by simp [rMeasure, t_1_1]) rfl
  by_cases t_1_2 : k = 2
  · --
    refine lv_tableIn (tgt := 54) (off := 53) hx hb dX6_measure_1 (by rw [t_1_2]; decide) (by rw [t_1_2]; decide) (by rw [t_1_2]; rfl) (by decide) ?_
    refine lv_aload_n hx hb dX6_measure_54 rfl (lv_at hl 0 rfl) ?_
    refine va_get (D := gD Γ) (cl := vwCl) (tys := gTy Γ) (ci := 6) (v := .ref (a 15)) (C := RX6) (T := TX6) (N := 11) hx hb hts iX6_measure_6 hown hK hP 0 rfl rfl 3 (Nat.le_of_ble_eq_true rfl) (hts (.fieldLink RX6 33 "DeadTimeLoop" "loop" "LDeadTimeLoop$Loop;") (List.mem_of_getElem? (i := 1) rfl)) (fun _ h9 => h9) rfl dX6_measure_55 ?_
    refine va_get (D := gD Γ) (cl := vwCl) (tys := gTy Γ) (ci := 1) (v := .ref (a 18)) (C := RX1) (T := TX1) (N := 9) hx hb hts iX6_measure_1 hown hK hP 15 rfl rfl 7 (Nat.le_of_ble_eq_true rfl) (hts (.fieldLink RX6 180 "DeadTimeLoop$Loop" "section" "LDeadTimeLoop$Section;") (List.mem_of_getElem? (i := 2) rfl)) (fun _ h9 => h9) rfl dX6_measure_58 ?_
    refine va_get (D := gD Γ) (cl := vwCl) (tys := gTy Γ) (ci := 2) (v := .int (sOver (lSec (xLoop x)))) (C := RX2) (T := TX2) (N := 5) hx hb hts iX6_measure_2 hown hK hP 18 rfl rfl 2 (Nat.le_of_ble_eq_true rfl) (hts (.fieldLink RX6 193 "DeadTimeLoop$Section" "overshoot" "I") (List.mem_of_getElem? (i := 5) rfl)) (fun _ h9 => h9) rfl dX6_measure_61 ?_
    refine lv_i2l (v := (sOver (lSec (xLoop x))).toInt64) hx hb dX6_measure_64 rfl ?_
    exact re_l hQ ha hx hb hr hlk hAe hP hS dX6_measure_65 (by simp [rMeasure, t_1_2]) rfl
  by_cases t_1_3 : k = 3
  · --
    refine lv_tableIn (tgt := 66) (off := 65) hx hb dX6_measure_1 (by rw [t_1_3]; decide) (by rw [t_1_3]; decide) (by rw [t_1_3]; rfl) (by decide) ?_
    refine lv_aload_n hx hb dX6_measure_66 rfl (lv_at hl 0 rfl) ?_
    refine va_get (D := gD Γ) (cl := vwCl) (tys := gTy Γ) (ci := 6) (v := .ref (a 15)) (C := RX6) (T := TX6) (N := 11) hx hb hts iX6_measure_6 hown hK hP 0 rfl rfl 3 (Nat.le_of_ble_eq_true rfl) (hts (.fieldLink RX6 33 "DeadTimeLoop" "loop" "LDeadTimeLoop$Loop;") (List.mem_of_getElem? (i := 1) rfl)) (fun _ h9 => h9) rfl dX6_measure_67 ?_
    refine va_get (D := gD Γ) (cl := vwCl) (tys := gTy Γ) (ci := 1) (v := .ref (a 18)) (C := RX1) (T := TX1) (N := 9) hx hb hts iX6_measure_1 hown hK hP 15 rfl rfl 7 (Nat.le_of_ble_eq_true rfl) (hts (.fieldLink RX6 180 "DeadTimeLoop$Loop" "section" "LDeadTimeLoop$Section;") (List.mem_of_getElem? (i := 2) rfl)) (fun _ h9 => h9) rfl dX6_measure_70 ?_
    refine va_get (D := gD Γ) (cl := vwCl) (tys := gTy Γ) (ci := 2) (v := .int (sTicks (lSec (xLoop x)))) (C := RX2) (T := TX2) (N := 5) hx hb hts iX6_measure_2 hown hK hP 18 rfl rfl 3 (Nat.le_of_ble_eq_true rfl) (hts (.fieldLink RX6 196 "DeadTimeLoop$Section" "ticks" "I") (List.mem_of_getElem? (i := 6) rfl)) (fun _ h9 => h9) rfl dX6_measure_73 ?_
    refine lv_i2l (v := (sTicks (lSec (xLoop x))).toInt64) hx hb dX6_measure_76 rfl ?_
    exact re_l hQ ha hx hb hr hlk hAe hP hS dX6_measure_77 (by simp [rMeasure, t_1_3]) rfl
  refine lv_tableOut (tgt := 78) hx hb dX6_measure_1 (tbl_out k 0 3 (by decide) (by decide) (tb_out4 t_1_0 t_1_1 t_1_2 t_1_3)) (by decide) ?_
  refine lv_ldc2 hx hb hown (hts (.constantLong RX6 199 (-2000000001)) (List.mem_of_getElem? (i := 7) rfl)) dX6_measure_78 ?_
  exact re_l hQ ha hx hb hr hlk hAe hP hS dX6_measure_81 (by simp [rMeasure, t_1_0, t_1_1, t_1_2, t_1_3]) rfl
