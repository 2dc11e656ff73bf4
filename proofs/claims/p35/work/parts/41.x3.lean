def rm_X6_bestGain : Room := { frames := 6, cells := 0, slots := 0, locals := 162 }
set_option maxHeartbeats 1000000 in
set_option maxRecDepth 100000 in
theorem c_X6_bestGain (Γ : gT) (l : Launch) (a : Nat → Nat) (x : Xst) (t : Int32) (N : Nat) (hN : lNow (xLoop x) = nI N) (hN2 : N < 2000000) (hB : lB (xLoop x)) : Ci Γ l yX6_bestGain wsX6_bestGain rm_X6_bestGain [.ref (a 0), .int t] (xW Γ a x) (rBest x t) (xW Γ a (gBest x t)) := by
  refine Ci.of (cc := cX6_bestGain) (own := RX6) (nL := 8) (ret := (some .int)) (by decide +kernel) rfl rfl (Nat.le_of_ble_eq_true rfl) ?_
  intro p e s m args below meth c A Q H locs ls ha hAe hQ hx hb hml hr hts hown hlk hP hK hD hS hA hG hl
  have hh : Hd Γ p s m args c cX6_bestGain RX6 8 wsX6_bestGain A := ⟨⟨hx, hb, hml, hown, hts⟩, hK, hA, hG⟩
  have hl : lv_has ls 8 [(0, .ref (a 0)), (1, .int t)] := hl
  refine lv_iload_n hx hb dX6_bestGain_0 rfl (lv_at hl 1 rfl) ?_
  refine lv_iconst (v := 1) hx hb dX6_bestGain_1 (by decide) ?_
  refine lv_icmp_lt (tgt := 11) hx hb dX6_bestGain_2 (by decide) (fun c_2 => ?_) (fun c_2 => ?_)
  · -- yes
    refine lv_ldc hx hb hown (hts (.constant RX6 63 (-2000000001)) (List.mem_of_getElem? (i := 1) rfl)) dX6_bestGain_11 ?_
    exact re_i hQ ha hx hb hr hlk hAe hP hS dX6_bestGain_13 (by simp only [rBest, c_2, if_true, if_false]) (by simp only [gBest, c_2, if_true, if_false])
  · -- no
    refine lv_iload_n hx hb dX6_bestGain_5 rfl (lv_at hl 1 rfl) ?_
    refine lv_bipush (v := 100) hx hb dX6_bestGain_6 (by decide) ?_
    refine lv_icmp_le (tgt := 14) hx hb dX6_bestGain_8 (by decide) (fun c_8 => ?_) (fun c_8 => ?_)
    · -- yes
      refine lv_iconst (v := 0) hx hb dX6_bestGain_14 (by decide) ?_
      refine lv_istore_n (lv' := [(2, .int 0), (0, .ref (a 0)), (1, .int t)]) hx hb dX6_bestGain_15 rfl hl (by decide) rfl (fun ls hl => ?_)
      refine lv_aload_n hx hb dX6_bestGain_16 rfl (lv_at hl 1 rfl) ?_
      refine lv_iconst (v := 0) hx hb dX6_bestGain_17 (by decide) ?_
      refine lv_iload_n hx hb dX6_bestGain_18 rfl (lv_at hl 2 rfl) ?_
      obtain ⟨u_19, eu_19⟩ : ∃ z : Xst, z = xErrX x 0 t.toNatClampNeg := ⟨_, rfl⟩
      have hM_19 : Cl Γ l yX6_errorsWith wsX6_errorsWith rm_X6_errorsWith [.ref (a 0), .int 0, .int t] (xW Γ a x) (xErr x 0 t.toNatClampNeg) (xW Γ a u_19) := by rw [eu_19]; exact c_X6_errorsWith Γ l a x 0 t N t.toNatClampNeg hN (by have := (rngT100 c_2 c_8).2.1; omega) (rngT100 c_2 c_8).1 hB
      refine ca_Vla hh hl.1 hM_19 (cwV 2 hts gX6_bestGain_X6_errorsWith rfl rfl rfl (by decide +kernel) ⟨(Nat.le_of_ble_eq_true rfl), (Nat.le_of_ble_eq_true rfl)⟩) (As := [.int 0, .int t]) (rest := []) rfl dX6_bestGain_19 rfl (Nat.le_of_ble_eq_true rfl) hP hD hS (q0 := 0) (ci := 6) rfl rfl rfl (wf := xW Γ a u_19) (xW_addr _ _ _ _) ⟨Nat.zero_le _, Nat.zero_le _⟩ (fun H locs hP hD hS => ?_)
      refine lv_lstore_n (lv' := [(3, .long (xErr x 0 t.toNatClampNeg)), (2, .int 0), (0, .ref (a 0)), (1, .int t)]) hx hb dX6_bestGain_22 rfl hl (by decide) rfl (fun ls hl => ?_)
      refine lv_sipush (v := 250) hx hb dX6_bestGain_23 (by decide) ?_
      refine lv_istore (lv' := [(5, .int 250), (3, .long (xErr x 0 t.toNatClampNeg)), (2, .int 0), (0, .ref (a 0)), (1, .int t)]) hx hb dX6_bestGain_26 hl (by decide) rfl (fun ls hl => ?_)
      have hJ_28 : ∀ n : Nat, ∀ (j : Nat) (y : Int32) (b : Int32) (le : Int64) (x1 : Xst), (y = nI (250 * j)) → (j ≤ 21) → (22 ≤ j + n) → (lNow (xLoop x1) = nI N) → (lB (xLoop x1)) → (fBestN t.toNatClampNeg n j b le x1 = fBest x t.toNatClampNeg) → ∀ (H : Heap) (locs : List Loc) (ls : Array Slot), va_P (gD Γ) vwCl (xW Γ a x1) H → va_D A (xW Γ a x1) → va_S A s.heap H locs → lv_has ls 8 [(0, .ref (a 0)), (1, .int t), (2, .int b), (3, .long le), (5, .int y)] → W p l e rm_X6_bestGain s m args below meth c H locs 0 0 Q (F0 m 28 ls []) := by
        intro n
        induction n with
        | zero =>
          intro j y b le x1 ey hj hn hN1 hB1 hg
          omega
        | succ n ih =>
          intro j y b le x1 ey hj hn hN1 hB1 hg H locs ls hP hD hS hl
          refine lv_iload hx hb dX6_bestGain_28 (lv_at hl 4 rfl) ?_
          refine lv_sipush (v := 5000) hx hb dX6_bestGain_30 (by decide) ?_
          refine lv_icmp_gt (tgt := 67) hx hb dX6_bestGain_33 (by decide) (fun c_33 => ?_) (fun c_33 => ?_)
          · -- yes
            refine lv_iload_n hx hb dX6_bestGain_67 rfl (lv_at hl 2 rfl) ?_
            exact re_i hQ ha hx hb hr hlk hAe hP hS dX6_bestGain_68 (by rw [show rBest x t = (fBest x t.toNatClampNeg).1 from by simp only [rBest, c_2, c_8, c_33, if_true, if_false], ← hg, fBestN_s]; subst ey; rw [if_pos c_33]) (by rw [show gBest x t = (fBest x t.toNatClampNeg).2 from by simp only [gBest, c_2, c_8, c_33, if_true, if_false], ← hg, fBestN_s]; subst ey; rw [if_pos c_33])
          · -- no
            refine lv_aload_n hx hb dX6_bestGain_36 rfl (lv_at hl 0 rfl) ?_
            refine lv_iload hx hb dX6_bestGain_37 (lv_at hl 4 rfl) ?_
            refine lv_iload_n hx hb dX6_bestGain_39 rfl (lv_at hl 1 rfl) ?_
            obtain ⟨u_40, eu_40⟩ : ∃ z : Xst, z = xErrX x1 y t.toNatClampNeg := ⟨_, rfl⟩
            have hM_40 : Cl Γ l yX6_errorsWith wsX6_errorsWith rm_X6_errorsWith [.ref (a 0), .int y, .int t] (xW Γ a x1) (xErr x1 y t.toNatClampNeg) (xW Γ a u_40) := by rw [eu_40]; exact c_X6_errorsWith Γ l a x1 y t N t.toNatClampNeg hN1 (by have := (rngT100 c_2 c_8).2.1; omega) (rngT100 c_2 c_8).1 hB1
            refine ca_Vla hh hl.1 hM_40 (cwV 2 hts gX6_bestGain_X6_errorsWith rfl rfl rfl (by decide +kernel) ⟨(Nat.le_of_ble_eq_true rfl), (Nat.le_of_ble_eq_true rfl)⟩) (As := [.int y, .int t]) (rest := []) rfl dX6_bestGain_40 rfl (Nat.le_of_ble_eq_true rfl) hP hD hS (q0 := 0) (ci := 6) rfl rfl rfl (wf := xW Γ a u_40) (xW_addr _ _ _ _) ⟨Nat.zero_le _, Nat.zero_le _⟩ (fun H locs hP hD hS => ?_)
            refine lv_lstore (lv' := [(6, .long (xErr x1 y t.toNatClampNeg)), (0, .ref (a 0)), (1, .int t), (2, .int b), (3, .long le), (5, .int y)]) hx hb dX6_bestGain_43 hl (by decide) rfl (fun ls hl => ?_)
            refine lv_lload hx hb dX6_bestGain_45 (lv_at hl 0 rfl) ?_
            refine lv_lload_n hx hb dX6_bestGain_47 rfl (lv_at hl 4 rfl) ?_
            refine W.lcmp hx hb dX6_bestGain_48 ?_
            refine lv_if_ge (tgt := 58) hx hb dX6_bestGain_49 (by decide) (fun c_49 => ?_) (fun c_49 => ?_)
            · -- yes
              have c_49 := (lg_cmp_ge _ _).mp c_49
              refine lv_iincW (v := (y + 250)) (lv' := [(5, .int (y + 250)), (6, .long (xErr x1 y t.toNatClampNeg)), (0, .ref (a 0)), (1, .int t), (2, .int b), (3, .long le)]) hx hb dX6_bestGain_58 hl (k := 5) rfl rfl (by decide) rfl (fun ls hl => ?_)
              refine lv_goto (tgt := 28) hx hb dX6_bestGain_64 (by decide) ?_
              exact ih (j + 1) _ _ _ u_40 (by rw [ey]; exact nI_add (250 * j) 250) (by rw [ey, show (5000 : Int32) = nI 5000 from rfl, nI_ltI (by decide) (by omega)] at c_33; omega) (by omega) (by rw [eu_40, xErrX_loop]; exact hN1) (by rw [eu_40, xErrX_loop]; exact hB1) (by rw [← hg, fBestN_s]; subst ey; rw [if_neg c_33]; (first | rw [if_pos c_49] | rw [if_neg c_49]); rw [eu_40]) _ _ _ hP hD hS (lv_sub hl [2, 3, 4, 5, 0] rfl)
            · -- no
              have c_49 := mt (lg_cmp_ge _ _).mpr c_49
              refine lv_lload hx hb dX6_bestGain_52 (lv_at hl 0 rfl) ?_
              refine lv_lstore_n (lv' := [(3, .long (xErr x1 y t.toNatClampNeg)), (6, .long (xErr x1 y t.toNatClampNeg)), (0, .ref (a 0)), (1, .int t), (2, .int b), (5, .int y)]) hx hb dX6_bestGain_54 rfl hl (by decide) rfl (fun ls hl => ?_)
              refine lv_iload hx hb dX6_bestGain_55 (lv_at hl 5 rfl) ?_
              refine lv_istore_n (lv' := [(2, .int y), (3, .long (xErr x1 y t.toNatClampNeg)), (6, .long (xErr x1 y t.toNatClampNeg)), (0, .ref (a 0)), (1, .int t), (5, .int y)]) hx hb dX6_bestGain_57 rfl hl (by decide) rfl (fun ls hl => ?_)
              refine lv_iincW (v := (y + 250)) (lv' := [(5, .int (y + 250)), (2, .int y), (3, .long (xErr x1 y t.toNatClampNeg)), (6, .long (xErr x1 y t.toNatClampNeg)), (0, .ref (a 0)), (1, .int t)]) hx hb dX6_bestGain_58 hl (k := 5) rfl rfl (by decide) rfl (fun ls hl => ?_)
              refine lv_goto (tgt := 28) hx hb dX6_bestGain_64 (by decide) ?_
              exact ih (j + 1) _ _ _ u_40 (by rw [ey]; exact nI_add (250 * j) 250) (by rw [ey, show (5000 : Int32) = nI 5000 from rfl, nI_ltI (by decide) (by omega)] at c_33; omega) (by omega) (by rw [eu_40, xErrX_loop]; exact hN1) (by rw [eu_40, xErrX_loop]; exact hB1) (by rw [← hg, fBestN_s]; subst ey; rw [if_neg c_33]; (first | rw [if_pos c_49] | rw [if_neg c_49]); rw [eu_40]) _ _ _ hP hD hS (lv_sub hl [4, 5, 1, 2, 0] rfl)
      exact hJ_28 21 1 _ _ _ u_19 rfl (by omega) (by omega) (by rw [eu_19, xErrX_loop]; exact hN) (by rw [eu_19, xErrX_loop]; exact hB) (by rw [eu_19]; rfl) _ _ _ hP hD hS (lv_sub hl [3, 4, 2, 1, 0] rfl)
    · -- no
      refine lv_ldc hx hb hown (hts (.constant RX6 63 (-2000000001)) (List.mem_of_getElem? (i := 1) rfl)) dX6_bestGain_11 ?_
      exact re_i hQ ha hx hb hr hlk hAe hP hS dX6_bestGain_13 (by simp only [rBest, c_2, c_8, if_true, if_false]) (by simp only [gBest, c_2, c_8, if_true, if_false])
def rm_X6_prepareIdeal : Room := { frames := 2, cells := 0, slots := 0, locals := 49 }
theorem iX6_prepareIdeal_1 : ∀ w ∈ u_ws RX1 TX1 9, w ∈ wsX6_prepareIdeal := fun w h => (List.mem_cons_of_mem _ (List.mem_append_left _ (List.mem_append_left _ (List.mem_append_left _ (List.mem_append_right _ h)))))
theorem iX6_prepareIdeal_6 : ∀ w ∈ u_ws RX6 TX6 11, w ∈ wsX6_prepareIdeal := fun w h => (List.mem_cons_of_mem _ (List.mem_append_left _ (List.mem_append_left _ (List.mem_append_left _ (List.mem_append_left _ (List.mem_append_right _ h))))))
set_option maxHeartbeats 1000000 in
set_option maxRecDepth 100000 in
theorem c_X6_prepareIdeal (Γ : gT) (l : Launch) (a : Nat → Nat) (x : Xst)  : Cv Γ l yX6_prepareIdeal wsX6_prepareIdeal rm_X6_prepareIdeal [.ref (a 0)] (xW Γ a x) (xW Γ a (xPrep x)) := by
  refine Cv.of (cc := cX6_prepareIdeal) (own := RX6) (nL := 1) (ret := none) (by decide +kernel) rfl rfl (Nat.le_of_ble_eq_true rfl) ?_
  intro p e s m args below meth c A Q H locs ls ha hAe hQ hx hb hml hr hts hown hlk hP hK hD hS hA hG hl
  have hh : Hd Γ p s m args c cX6_prepareIdeal RX6 1 wsX6_prepareIdeal A := ⟨⟨hx, hb, hml, hown, hts⟩, hK, hA, hG⟩
  have hl : lv_has ls 1 [(0, .ref (a 0))] := hl
  refine lv_aload_n hx hb dX6_prepareIdeal_0 rfl (lv_at hl 0 rfl) ?_
  refine va_get (D := gD Γ) (cl := vwCl) (tys := gTy Γ) (ci := 6) (v := .ref (a 42)) (C := RX6) (T := TX6) (N := 11) hx hb hts iX6_prepareIdeal_6 hown hK hP 0 rfl rfl 7 (Nat.le_of_ble_eq_true rfl) (hts (.fieldLink RX6 47 "DeadTimeLoop" "trialSettings" "LDeadTimeLoop$Settings;") (List.mem_of_getElem? (i := 1) rfl)) (fun _ h9 => h9) rfl dX6_prepareIdeal_1 ?_
  refine lv_aload_n hx hb dX6_prepareIdeal_4 rfl (lv_at hl 0 rfl) ?_
  refine va_get (D := gD Γ) (cl := vwCl) (tys := gTy Γ) (ci := 6) (v := .ref (a 1)) (C := RX6) (T := TX6) (N := 11) hx hb hts iX6_prepareIdeal_6 hown hK hP 0 rfl rfl 0 (Nat.le_of_ble_eq_true rfl) (hts (.fieldLink RX6 12 "DeadTimeLoop" "settings" "LDeadTimeLoop$Settings;") (List.mem_of_getElem? (i := 2) rfl)) (fun _ h9 => h9) rfl dX6_prepareIdeal_5 ?_
  obtain ⟨u_8, eu_8⟩ : ∃ z : Sett, z = va_cpy (xSet x) (xTs x) 0 0 15 := ⟨_, rfl⟩
  have hM_8 : Cv Γ l yX3_copy wsX3_copy rm_X3_copy [.ref (a 42), .ref (a 1)] (setW Γ a 42 (xTs x) ++ setW Γ a 1 (xSet x)) (setW Γ a 42 u_8 ++ setW Γ a 1 (xSet x)) := by rw [eu_8]; exact c_X3_copy Γ l a 42 a 1 (xTs x) (xSet x)
  refine ca_Vv hh hl.1 hM_8 (cwV 1 hts gX6_prepareIdeal_X3_copy rfl rfl rfl (by decide +kernel) ⟨(Nat.le_of_ble_eq_true rfl), (Nat.le_of_ble_eq_true rfl)⟩) (As := [.ref (a 1)]) (rest := []) rfl dX6_prepareIdeal_8 rfl (Nat.le_of_ble_eq_true rfl) hP hD hS ([42, 43] ++ [1, 2]) rfl (map_app2 (xB_at_trialSettings Γ a _) (xB_at_settings Γ a _)) (q0 := 42) (ci := 3) rfl rfl rfl 4 rfl rfl (wf := xW Γ a ((xSet x), (xChg x), (xTxt x), (xLoop x), (xFst x), (xSnd x), (xCnt x), u_8, (xIs x), (xTrial x), (xIdeal x))) ((va_upd_app [42, 43] _ _ [1, 2] _ rfl).trans ((congrArg (fun z => va_upd z [1, 2] _) (xB_up_trialSettings Γ a _ _)).trans (xB_up_settings Γ a _ _))) (xW_addr _ _ _ _) ⟨Nat.zero_le _, Nat.zero_le _⟩ (fun H locs hP hD hS => ?_)
  refine lv_aload_n hx hb dX6_prepareIdeal_11 rfl (lv_at hl 0 rfl) ?_
  refine va_get (D := gD Γ) (cl := vwCl) (tys := gTy Γ) (ci := 6) (v := .ref (a 42)) (C := RX6) (T := TX6) (N := 11) hx hb hts iX6_prepareIdeal_6 hown hK hP 0 rfl rfl 7 (Nat.le_of_ble_eq_true rfl) (hts (.fieldLink RX6 47 "DeadTimeLoop" "trialSettings" "LDeadTimeLoop$Settings;") (List.mem_of_getElem? (i := 1) rfl)) (fun _ h9 => h9) rfl dX6_prepareIdeal_12 ?_
  refine lv_bipush (v := 14) hx hb dX6_prepareIdeal_15 (by decide) ?_
  refine lv_iconst (v := 0) hx hb dX6_prepareIdeal_17 (by decide) ?_
  obtain ⟨u_18, eu_18⟩ : ∃ z : Sett, z = fSet u_8 14 0 := ⟨_, rfl⟩
  have hM_18 : Cv Γ l yX3_set wsX3_set rm_X3_set [.ref (a 42), .int 14, .int 0] (setW Γ a 42 u_8) (setW Γ a 42 u_18) := by rw [eu_18]; exact c_X3_set Γ l a 42 u_8 14 0
  refine ca_Vv hh hl.1 hM_18 (cwV 2 hts gX6_prepareIdeal_X3_set rfl rfl rfl (by decide +kernel) ⟨(Nat.le_of_ble_eq_true rfl), (Nat.le_of_ble_eq_true rfl)⟩) (As := [.int 14, .int 0]) (rest := []) rfl dX6_prepareIdeal_18 rfl (Nat.le_of_ble_eq_true rfl) hP hD hS [42, 43] rfl (xB_at_trialSettings Γ a _) (q0 := 42) (ci := 3) rfl rfl rfl 2 rfl rfl (wf := xW Γ a ((xSet x), (xChg x), (xTxt x), (xLoop x), (xFst x), (xSnd x), (xCnt x), u_18, (xIs x), (xTrial x), (xIdeal x))) (xB_up_trialSettings Γ a _ _) (xW_addr _ _ _ _) ⟨Nat.zero_le _, Nat.zero_le _⟩ (fun H locs hP hD hS => ?_)
  refine lv_aload_n hx hb dX6_prepareIdeal_21 rfl (lv_at hl 0 rfl) ?_
  refine va_get (D := gD Γ) (cl := vwCl) (tys := gTy Γ) (ci := 6) (v := .ref (a 44)) (C := RX6) (T := TX6) (N := 11) hx hb hts iX6_prepareIdeal_6 hown hK hP 0 rfl rfl 8 (Nat.le_of_ble_eq_true rfl) (hts (.fieldLink RX6 50 "DeadTimeLoop" "idealSettings" "LDeadTimeLoop$Settings;") (List.mem_of_getElem? (i := 3) rfl)) (fun _ h9 => h9) rfl dX6_prepareIdeal_22 ?_
  refine lv_aload_n hx hb dX6_prepareIdeal_25 rfl (lv_at hl 0 rfl) ?_
  refine va_get (D := gD Γ) (cl := vwCl) (tys := gTy Γ) (ci := 6) (v := .ref (a 42)) (C := RX6) (T := TX6) (N := 11) hx hb hts iX6_prepareIdeal_6 hown hK hP 0 rfl rfl 7 (Nat.le_of_ble_eq_true rfl) (hts (.fieldLink RX6 47 "DeadTimeLoop" "trialSettings" "LDeadTimeLoop$Settings;") (List.mem_of_getElem? (i := 1) rfl)) (fun _ h9 => h9) rfl dX6_prepareIdeal_26 ?_
  obtain ⟨u_29, eu_29⟩ : ∃ z : Sett, z = va_cpy u_18 (xIs x) 0 0 15 := ⟨_, rfl⟩
  have hM_29 : Cv Γ l yX3_copy wsX3_copy rm_X3_copy [.ref (a 44), .ref (a 42)] (setW Γ a 44 (xIs x) ++ setW Γ a 42 u_18) (setW Γ a 44 u_29 ++ setW Γ a 42 u_18) := by rw [eu_29]; exact c_X3_copy Γ l a 44 a 42 (xIs x) u_18
  refine ca_Vv hh hl.1 hM_29 (cwV 1 hts gX6_prepareIdeal_X3_copy rfl rfl rfl (by decide +kernel) ⟨(Nat.le_of_ble_eq_true rfl), (Nat.le_of_ble_eq_true rfl)⟩) (As := [.ref (a 42)]) (rest := []) rfl dX6_prepareIdeal_29 rfl (Nat.le_of_ble_eq_true rfl) hP hD hS ([44, 45] ++ [42, 43]) rfl (map_app2 (xB_at_idealSettings Γ a _) (xB_at_trialSettings Γ a _)) (q0 := 44) (ci := 3) rfl rfl rfl 4 rfl rfl (wf := xW Γ a ((xSet x), (xChg x), (xTxt x), (xLoop x), (xFst x), (xSnd x), (xCnt x), u_18, u_29, (xTrial x), (xIdeal x))) ((va_upd_app [44, 45] _ _ [42, 43] _ rfl).trans ((congrArg (fun z => va_upd z [42, 43] _) (xB_up_idealSettings Γ a _ _)).trans (xB_up_trialSettings Γ a _ _))) (xW_addr _ _ _ _) ⟨Nat.zero_le _, Nat.zero_le _⟩ (fun H locs hP hD hS => ?_)
  refine lv_aload_n hx hb dX6_prepareIdeal_32 rfl (lv_at hl 0 rfl) ?_
  refine va_get (D := gD Γ) (cl := vwCl) (tys := gTy Γ) (ci := 6) (v := .ref (a 44)) (C := RX6) (T := TX6) (N := 11) hx hb hts iX6_prepareIdeal_6 hown hK hP 0 rfl rfl 8 (Nat.le_of_ble_eq_true rfl) (hts (.fieldLink RX6 50 "DeadTimeLoop" "idealSettings" "LDeadTimeLoop$Settings;") (List.mem_of_getElem? (i := 3) rfl)) (fun _ h9 => h9) rfl dX6_prepareIdeal_33 ?_
  refine lv_iconst (v := 4) hx hb dX6_prepareIdeal_36 (by decide) ?_
  refine lv_iconst (v := 0) hx hb dX6_prepareIdeal_37 (by decide) ?_
  obtain ⟨u_38, eu_38⟩ : ∃ z : Sett, z = fSet u_29 4 0 := ⟨_, rfl⟩
  have hM_38 : Cv Γ l yX3_set wsX3_set rm_X3_set [.ref (a 44), .int 4, .int 0] (setW Γ a 44 u_29) (setW Γ a 44 u_38) := by rw [eu_38]; exact c_X3_set Γ l a 44 u_29 4 0
  refine ca_Vv hh hl.1 hM_38 (cwV 2 hts gX6_prepareIdeal_X3_set rfl rfl rfl (by decide +kernel) ⟨(Nat.le_of_ble_eq_true rfl), (Nat.le_of_ble_eq_true rfl)⟩) (As := [.int 4, .int 0]) (rest := []) rfl dX6_prepareIdeal_38 rfl (Nat.le_of_ble_eq_true rfl) hP hD hS [44, 45] rfl (xB_at_idealSettings Γ a _) (q0 := 44) (ci := 3) rfl rfl rfl 2 rfl rfl (wf := xW Γ a ((xSet x), (xChg x), (xTxt x), (xLoop x), (xFst x), (xSnd x), (xCnt x), u_18, u_38, (xTrial x), (xIdeal x))) (xB_up_idealSettings Γ a _ _) (xW_addr _ _ _ _) ⟨Nat.zero_le _, Nat.zero_le _⟩ (fun H locs hP hD hS => ?_)
  refine lv_aload_n hx hb dX6_prepareIdeal_41 rfl (lv_at hl 0 rfl) ?_
  refine va_get (D := gD Γ) (cl := vwCl) (tys := gTy Γ) (ci := 6) (v := .ref (a 46)) (C := RX6) (T := TX6) (N := 11) hx hb hts iX6_prepareIdeal_6 hown hK hP 0 rfl rfl 9 (Nat.le_of_ble_eq_true rfl) (hts (.fieldLink RX6 53 "DeadTimeLoop" "trial" "LDeadTimeLoop$Loop;") (List.mem_of_getElem? (i := 4) rfl)) (fun _ h9 => h9) rfl dX6_prepareIdeal_42 ?_
  obtain ⟨u_45, eu_45⟩ : ∃ z : Lop, z = fBegin (xTrial x) := ⟨_, rfl⟩
  have hM_45 : Cv Γ l yX1_begin wsX1_begin rm_X1_begin [.ref (a 46)] (lopW Γ a 46 (xTrial x)) (lopW Γ a 46 u_45) := by rw [eu_45]; exact c_X1_begin Γ l a 46 (xTrial x)
  refine ca_Vv hh hl.1 hM_45 (cwV 0 hts gX6_prepareIdeal_X1_begin rfl rfl rfl (by decide +kernel) ⟨(Nat.le_of_ble_eq_true rfl), (Nat.le_of_ble_eq_true rfl)⟩) (As := []) (rest := []) rfl dX6_prepareIdeal_45 rfl (Nat.le_of_ble_eq_true rfl) hP hD hS [46, 47, 48, 49, 50, 51, 52, 53, 54] rfl (xB_at_trial Γ a _) (q0 := 46) (ci := 1) rfl rfl rfl 9 rfl rfl (wf := xW Γ a ((xSet x), (xChg x), (xTxt x), (xLoop x), (xFst x), (xSnd x), (xCnt x), u_18, u_38, u_45, (xIdeal x))) (xB_up_trial Γ a _ _) (xW_addr _ _ _ _) ⟨Nat.zero_le _, Nat.zero_le _⟩ (fun H locs hP hD hS => ?_)
  refine lv_aload_n hx hb dX6_prepareIdeal_48 rfl (lv_at hl 0 rfl) ?_
  refine va_get (D := gD Γ) (cl := vwCl) (tys := gTy Γ) (ci := 6) (v := .ref (a 46)) (C := RX6) (T := TX6) (N := 11) hx hb hts iX6_prepareIdeal_6 hown hK hP 0 rfl rfl 9 (Nat.le_of_ble_eq_true rfl) (hts (.fieldLink RX6 53 "DeadTimeLoop" "trial" "LDeadTimeLoop$Loop;") (List.mem_of_getElem? (i := 4) rfl)) (fun _ h9 => h9) rfl dX6_prepareIdeal_49 ?_
  refine lv_aload_n hx hb dX6_prepareIdeal_52 rfl (lv_at hl 0 rfl) ?_
  refine va_get (D := gD Γ) (cl := vwCl) (tys := gTy Γ) (ci := 6) (v := .ref (a 15)) (C := RX6) (T := TX6) (N := 11) hx hb hts iX6_prepareIdeal_6 hown hK hP 0 rfl rfl 3 (Nat.le_of_ble_eq_true rfl) (hts (.fieldLink RX6 33 "DeadTimeLoop" "loop" "LDeadTimeLoop$Loop;") (List.mem_of_getElem? (i := 5) rfl)) (fun _ h9 => h9) rfl dX6_prepareIdeal_53 ?_
  refine va_get (D := gD Γ) (cl := vwCl) (tys := gTy Γ) (ci := 1) (v := .ref (a 16)) (C := RX1) (T := TX1) (N := 9) hx hb hts iX6_prepareIdeal_1 hown hK hP 15 rfl rfl 5 (Nat.le_of_ble_eq_true rfl) (hts (.fieldLink RX6 145 "DeadTimeLoop$Loop" "present" "[I") (List.mem_of_getElem? (i := 6) rfl)) (fun _ h9 => h9) rfl dX6_prepareIdeal_56 ?_
  refine lv_iconst (v := 0) hx hb dX6_prepareIdeal_59 (by decide) ?_
  refine ka_iald (D := gD Γ) (cl := vwCl) (tys := gTy Γ) hx hb hK hP 16 0 rfl rfl 0 (by decide) (by decide) (by decide) (v := ((lPres (xLoop x)) 0)) rfl dX6_prepareIdeal_60 ?_
  obtain ⟨u_61, eu_61⟩ : ∃ z : Lop, z = fSetR u_45 ((lPres (xLoop x)) 0) := ⟨_, rfl⟩
  have hM_61 : Ci Γ l yX1_changeSetpoint wsX1_changeSetpoint rm_X1_changeSetpoint [.ref (a 46), .int ((lPres (xLoop x)) 0)] (lopW Γ a 46 u_45) (((lPres u_45) 0)) (lopW Γ a 46 u_61) := by rw [eu_61]; exact c_X1_changeSetpoint Γ l a 46 u_45 ((lPres (xLoop x)) 0)
  refine ca_Vi hh hl.1 hM_61 (cwV 1 hts gX6_prepareIdeal_X1_changeSetpoint rfl rfl rfl (by decide +kernel) ⟨(Nat.le_of_ble_eq_true rfl), (Nat.le_of_ble_eq_true rfl)⟩) (As := [.int ((lPres (xLoop x)) 0)]) (rest := []) rfl dX6_prepareIdeal_61 rfl (Nat.le_of_ble_eq_true rfl) hP hD hS [46, 47, 48, 49, 50, 51, 52, 53, 54] rfl (xB_at_trial Γ a _) (q0 := 46) (ci := 1) rfl rfl rfl 9 rfl rfl (wf := xW Γ a ((xSet x), (xChg x), (xTxt x), (xLoop x), (xFst x), (xSnd x), (xCnt x), u_18, u_38, u_61, (xIdeal x))) (xB_up_trial Γ a _ _) (xW_addr _ _ _ _) ⟨Nat.zero_le _, Nat.zero_le _⟩ (fun H locs hP hD hS => ?_)
  refine lv_pop hx hb dX6_prepareIdeal_64 rfl ?_
  refine lv_aload_n hx hb dX6_prepareIdeal_65 rfl (lv_at hl 0 rfl) ?_
  refine va_get (D := gD Γ) (cl := vwCl) (tys := gTy Γ) (ci := 6) (v := .ref (a 55)) (C := RX6) (T := TX6) (N := 11) hx hb hts iX6_prepareIdeal_6 hown hK hP 0 rfl rfl 10 (Nat.le_of_ble_eq_true rfl) (hts (.fieldLink RX6 56 "DeadTimeLoop" "ideal" "LDeadTimeLoop$Loop;") (List.mem_of_getElem? (i := 7) rfl)) (fun _ h9 => h9) rfl dX6_prepareIdeal_66 ?_
  obtain ⟨u_69, eu_69⟩ : ∃ z : Lop, z = fBegin (xIdeal x) := ⟨_, rfl⟩
  have hM_69 : Cv Γ l yX1_begin wsX1_begin rm_X1_begin [.ref (a 55)] (lopW Γ a 55 (xIdeal x)) (lopW Γ a 55 u_69) := by rw [eu_69]; exact c_X1_begin Γ l a 55 (xIdeal x)
  refine ca_Vv hh hl.1 hM_69 (cwV 0 hts gX6_prepareIdeal_X1_begin rfl rfl rfl (by decide +kernel) ⟨(Nat.le_of_ble_eq_true rfl), (Nat.le_of_ble_eq_true rfl)⟩) (As := []) (rest := []) rfl dX6_prepareIdeal_69 rfl (Nat.le_of_ble_eq_true rfl) hP hD hS [55, 56, 57, 58, 59, 60, 61, 62, 63] rfl (xB_at_ideal Γ a _) (q0 := 55) (ci := 1) rfl rfl rfl 9 rfl rfl (wf := xW Γ a ((xSet x), (xChg x), (xTxt x), (xLoop x), (xFst x), (xSnd x), (xCnt x), u_18, u_38, u_61, u_69)) (xB_up_ideal Γ a _ _) (xW_addr _ _ _ _) ⟨Nat.zero_le _, Nat.zero_le _⟩ (fun H locs hP hD hS => ?_)
  refine lv_aload_n hx hb dX6_prepareIdeal_72 rfl (lv_at hl 0 rfl) ?_
  refine va_get (D := gD Γ) (cl := vwCl) (tys := gTy Γ) (ci := 6) (v := .ref (a 55)) (C := RX6) (T := TX6) (N := 11) hx hb hts iX6_prepareIdeal_6 hown hK hP 0 rfl rfl 10 (Nat.le_of_ble_eq_true rfl) (hts (.fieldLink RX6 56 "DeadTimeLoop" "ideal" "LDeadTimeLoop$Loop;") (List.mem_of_getElem? (i := 7) rfl)) (fun _ h9 => h9) rfl dX6_prepareIdeal_73 ?_
  refine lv_aload_n hx hb dX6_prepareIdeal_76 rfl (lv_at hl 0 rfl) ?_
  refine va_get (D := gD Γ) (cl := vwCl) (tys := gTy Γ) (ci := 6) (v := .ref (a 15)) (C := RX6) (T := TX6) (N := 11) hx hb hts iX6_prepareIdeal_6 hown hK hP 0 rfl rfl 3 (Nat.le_of_ble_eq_true rfl) (hts (.fieldLink RX6 33 "DeadTimeLoop" "loop" "LDeadTimeLoop$Loop;") (List.mem_of_getElem? (i := 5) rfl)) (fun _ h9 => h9) rfl dX6_prepareIdeal_77 ?_
  refine va_get (D := gD Γ) (cl := vwCl) (tys := gTy Γ) (ci := 1) (v := .ref (a 16)) (C := RX1) (T := TX1) (N := 9) hx hb hts iX6_prepareIdeal_1 hown hK hP 15 rfl rfl 5 (Nat.le_of_ble_eq_true rfl) (hts (.fieldLink RX6 145 "DeadTimeLoop$Loop" "present" "[I") (List.mem_of_getElem? (i := 6) rfl)) (fun _ h9 => h9) rfl dX6_prepareIdeal_80 ?_
  refine lv_iconst (v := 0) hx hb dX6_prepareIdeal_83 (by decide) ?_
  refine ka_iald (D := gD Γ) (cl := vwCl) (tys := gTy Γ) hx hb hK hP 16 0 rfl rfl 0 (by decide) (by decide) (by decide) (v := ((lPres (xLoop x)) 0)) rfl dX6_prepareIdeal_84 ?_
  obtain ⟨u_85, eu_85⟩ : ∃ z : Lop, z = fSetR u_69 ((lPres (xLoop x)) 0) := ⟨_, rfl⟩
  have hM_85 : Ci Γ l yX1_changeSetpoint wsX1_changeSetpoint rm_X1_changeSetpoint [.ref (a 55), .int ((lPres (xLoop x)) 0)] (lopW Γ a 55 u_69) (((lPres u_69) 0)) (lopW Γ a 55 u_85) := by rw [eu_85]; exact c_X1_changeSetpoint Γ l a 55 u_69 ((lPres (xLoop x)) 0)
  refine ca_Vi hh hl.1 hM_85 (cwV 1 hts gX6_prepareIdeal_X1_changeSetpoint rfl rfl rfl (by decide +kernel) ⟨(Nat.le_of_ble_eq_true rfl), (Nat.le_of_ble_eq_true rfl)⟩) (As := [.int ((lPres (xLoop x)) 0)]) (rest := []) rfl dX6_prepareIdeal_85 rfl (Nat.le_of_ble_eq_true rfl) hP hD hS [55, 56, 57, 58, 59, 60, 61, 62, 63] rfl (xB_at_ideal Γ a _) (q0 := 55) (ci := 1) rfl rfl rfl 9 rfl rfl (wf := xW Γ a ((xSet x), (xChg x), (xTxt x), (xLoop x), (xFst x), (xSnd x), (xCnt x), u_18, u_38, u_61, u_85)) (xB_up_ideal Γ a _ _) (xW_addr _ _ _ _) ⟨Nat.zero_le _, Nat.zero_le _⟩ (fun H locs hP hD hS => ?_)
  refine lv_pop hx hb dX6_prepareIdeal_88 rfl ?_
  exact re_v hQ ha hx hb hr hlk hAe hP hS dX6_prepareIdeal_89 (by simp only [xPrep, xPrepTs, xPrepIs, ← eu_8, ← eu_18, ← eu_29, ← eu_38, ← eu_45, ← eu_61, ← eu_69, ← eu_85])
def rm_X6_idealDifference : Room := { frames := 5, cells := 0, slots := 0, locals := 137 }
theorem iX6_idealDifference_6 : ∀ w ∈ u_ws RX6 TX6 11, w ∈ wsX6_idealDifference := fun w h => (List.mem_cons_of_mem _ (List.mem_append_left _ (List.mem_append_left _ (List.mem_append_left _ (List.mem_append_left _ (List.mem_append_right _ h))))))
set_option maxHeartbeats 1000000 in
set_option maxRecDepth 100000 in
theorem c_X6_idealDifference (Γ : gT) (l : Launch) (a : Nat → Nat) (x : Xst) (t : Int32) (J : Nat) (hJ : fGet (xSet x) 4 / 10 = nI J) (hJ2 : J ≤ 30) : Ci Γ l yX6_idealDifference wsX6_idealDifference rm_X6_idealDifference [.ref (a 0), .int t] (xW Γ a x) (rIdeal x t) (xW Γ a (gIdeal x t)) := by
  refine Ci.of (cc := cX6_idealDifference) (own := RX6) (nL := 4) (ret := (some .int)) (by decide +kernel) rfl rfl (Nat.le_of_ble_eq_true rfl) ?_
  intro p e s m args below meth c A Q H locs ls ha hAe hQ hx hb hml hr hts hown hlk hP hK hD hS hA hG hl
  have hh : Hd Γ p s m args c cX6_idealDifference RX6 4 wsX6_idealDifference A := ⟨⟨hx, hb, hml, hown, hts⟩, hK, hA, hG⟩
  have hl : lv_has ls 4 [(0, .ref (a 0)), (1, .int t)] := hl
  refine lv_iload_n hx hb dX6_idealDifference_0 rfl (lv_at hl 1 rfl) ?_
  refine lv_iconst (v := 1) hx hb dX6_idealDifference_1 (by decide) ?_
  refine lv_icmp_lt (tgt := 12) hx hb dX6_idealDifference_2 (by decide) (fun c_2 => ?_) (fun c_2 => ?_)
  · -- yes
    refine lv_ldc hx hb hown (hts (.constant RX6 63 (-2000000001)) (List.mem_of_getElem? (i := 1) rfl)) dX6_idealDifference_12 ?_
    exact re_i hQ ha hx hb hr hlk hAe hP hS dX6_idealDifference_14 (by simp only [rIdeal, c_2, if_true, if_false]) (by simp only [gIdeal, c_2, if_true, if_false])
  · -- no
    refine lv_iload_n hx hb dX6_idealDifference_5 rfl (lv_at hl 1 rfl) ?_
    refine lv_sipush (v := 200) hx hb dX6_idealDifference_6 (by decide) ?_
    refine lv_icmp_le (tgt := 15) hx hb dX6_idealDifference_9 (by decide) (fun c_9 => ?_) (fun c_9 => ?_)
    · -- yes
      refine lv_aload_n hx hb dX6_idealDifference_15 rfl (lv_at hl 0 rfl) ?_
      obtain ⟨u_16, eu_16⟩ : ∃ z : Xst, z = xPrep x := ⟨_, rfl⟩
      have hM_16 : Cv Γ l yX6_prepareIdeal wsX6_prepareIdeal rm_X6_prepareIdeal [.ref (a 0)] (xW Γ a x) (xW Γ a u_16) := by rw [eu_16]; exact c_X6_prepareIdeal Γ l a x
      refine ca_Vva hh hl.1 hM_16 (cwV 0 hts gX6_idealDifference_X6_prepareIdeal rfl rfl rfl (by decide +kernel) ⟨(Nat.le_of_ble_eq_true rfl), (Nat.le_of_ble_eq_true rfl)⟩) (As := []) (rest := []) rfl dX6_idealDifference_16 rfl (Nat.le_of_ble_eq_true rfl) hP hD hS (q0 := 0) (ci := 6) rfl rfl rfl (wf := xW Γ a u_16) (xW_addr _ _ _ _) ⟨Nat.zero_le _, Nat.zero_le _⟩ (fun H locs hP hD hS => ?_)
      refine lv_iconst (v := 0) hx hb dX6_idealDifference_19 (by decide) ?_
      refine lv_istore_n (lv' := [(2, .int 0), (0, .ref (a 0)), (1, .int t)]) hx hb dX6_idealDifference_20 rfl hl (by decide) rfl (fun ls hl => ?_)
      have hJ_21 : ∀ n : Nat, ∀ (i : Nat) (y : Int32) (σ1 : Lop), (y = nI i) → (i ≤ J) → (J + 1 ≤ i + n) → (lNow σ1 = nI i) → (fAdv (xTs u_16) (J - i) σ1 = xIdl1 u_16 J) → ∀ (H : Heap) (locs : List Loc) (ls : Array Slot), va_P (gD Γ) vwCl (xW Γ a ((xSet u_16), (xChg u_16), (xTxt u_16), (xLoop u_16), (xFst u_16), (xSnd u_16), (xCnt u_16), (xTs u_16), (xIs u_16), σ1, (xIdeal u_16))) H → va_D A (xW Γ a ((xSet u_16), (xChg u_16), (xTxt u_16), (xLoop u_16), (xFst u_16), (xSnd u_16), (xCnt u_16), (xTs u_16), (xIs u_16), σ1, (xIdeal u_16))) → va_S A s.heap H locs → lv_has ls 4 [(0, .ref (a 0)), (1, .int t), (2, .int y)] → W p l e rm_X6_idealDifference s m args below meth c H locs 0 0 Q (F0 m 21 ls []) := by
        intro n
        induction n with
        | zero =>
          intro i y σ1 ey hi hn hs hg
          omega
        | succ n ih =>
          intro i y σ1 ey hi hn hs hg H locs ls hP hD hS hl
          have hset : xSet u_16 = xSet x := by rw [eu_16, xPrep_set]
          refine lv_iload_n hx hb dX6_idealDifference_21 rfl (lv_at hl 2 rfl) ?_
          refine lv_aload_n hx hb dX6_idealDifference_22 rfl (lv_at hl 0 rfl) ?_
          refine va_get (D := gD Γ) (cl := vwCl) (tys := gTy Γ) (ci := 6) (v := .ref (a 1)) (C := RX6) (T := TX6) (N := 11) hx hb hts iX6_idealDifference_6 hown hK hP 0 rfl rfl 0 (Nat.le_of_ble_eq_true rfl) (hts (.fieldLink RX6 12 "DeadTimeLoop" "settings" "LDeadTimeLoop$Settings;") (List.mem_of_getElem? (i := 2) rfl)) (fun _ h9 => h9) rfl dX6_idealDifference_23 ?_
          refine lv_iconst (v := 4) hx hb dX6_idealDifference_26 (by decide) ?_
          refine ca_Vi hh hl.1 (c_X3_get Γ l a 1 (xSet u_16) 4) (cwV 1 hts gX6_idealDifference_X3_get rfl rfl rfl (by decide +kernel) ⟨(Nat.le_of_ble_eq_true rfl), (Nat.le_of_ble_eq_true rfl)⟩) (As := [.int 4]) (rest := [.int y]) rfl dX6_idealDifference_27 rfl (Nat.le_of_ble_eq_true rfl) hP hD hS [1, 2] rfl (xB_at_settings Γ a _) (q0 := 1) (ci := 3) rfl rfl rfl 2 rfl rfl (wf := xW Γ a ((xSet u_16), (xChg u_16), (xTxt u_16), (xLoop u_16), (xFst u_16), (xSnd u_16), (xCnt u_16), (xTs u_16), (xIs u_16), σ1, (xIdeal u_16))) (xB_up_settings Γ a _ _) (xW_addr _ _ _ _) ⟨Nat.zero_le _, Nat.zero_le _⟩ (fun H locs hP hD hS => ?_)
          refine lv_bipush (v := 10) hx hb dX6_idealDifference_30 (by decide) ?_
          refine lv_idiv hx hb dX6_idealDifference_32 (by decide) ?_
          refine lv_icmp_ge (tgt := 54) hx hb dX6_idealDifference_33 (by decide) (fun c_33 => ?_) (fun c_33 => ?_)
          · -- yes
            refine lv_aload_n hx hb dX6_idealDifference_54 rfl (lv_at hl 0 rfl) ?_
            refine ca_Via hh hl.1 (c_X6_difference Γ l a ((xSet u_16), (xChg u_16), (xTxt u_16), (xLoop u_16), (xFst u_16), (xSnd u_16), (xCnt u_16), (xTs u_16), (xIs u_16), σ1, (xIdeal u_16))) (cwV 0 hts gX6_idealDifference_X6_difference rfl rfl rfl (by decide +kernel) ⟨(Nat.le_of_ble_eq_true rfl), (Nat.le_of_ble_eq_true rfl)⟩) (As := []) (rest := []) rfl dX6_idealDifference_55 rfl (Nat.le_of_ble_eq_true rfl) hP hD hS (q0 := 0) (ci := 6) rfl rfl rfl (wf := xW Γ a ((xSet u_16), (xChg u_16), (xTxt u_16), (xLoop u_16), (xFst u_16), (xSnd u_16), (xCnt u_16), (xTs u_16), (xIs u_16), σ1, (xIdeal u_16))) (xW_addr _ _ _ _) ⟨Nat.zero_le _, Nat.zero_le _⟩ (fun H locs hP hD hS => ?_)
            refine lv_istore_n (lv' := [(2, .int (fDiff σ1 (xIdeal u_16))), (0, .ref (a 0)), (1, .int t)]) hx hb dX6_idealDifference_58 rfl hl (by decide) rfl (fun ls hl => ?_)
            have eT := (rngT200 c_2 c_9).1
            have eT2 := (rngT200 c_2 c_9).2.1
            have eiJ : i = J := (by rw [hset, hJ, ey] at c_33; rcases Nat.lt_or_ge i J with q | q; exact absurd c_33 (nI_ge q (by omega)); omega)
            rw [eiJ, Nat.sub_self] at hg
            refine lv_iconst (v := 0) hx hb dX6_idealDifference_59 (by decide) ?_
            refine lv_istore_n (lv' := [(3, .int 0), (2, .int (fDiff σ1 (xIdeal u_16))), (0, .ref (a 0)), (1, .int t)]) hx hb dX6_idealDifference_60 rfl hl (by decide) rfl (fun ls hl => ?_)
            have hJ_61 : ∀ n : Nat, ∀ (k : Nat) (z : Int32) (g : Int32) (σ2 : Lop) (τ2 : Lop), (z = nI k) → (k ≤ t.toNatClampNeg) → (t.toNatClampNeg + 1 ≤ k + n) → (lNow σ2 = nI (J + k)) → (lNow τ2 = nI k) → (fIdN (xTs u_16) (xIs u_16) (t.toNatClampNeg - k) σ2 τ2 g = xIdl2 u_16 J t.toNatClampNeg) → ∀ (H : Heap) (locs : List Loc) (ls : Array Slot), va_P (gD Γ) vwCl (xW Γ a ((xSet u_16), (xChg u_16), (xTxt u_16), (xLoop u_16), (xFst u_16), (xSnd u_16), (xCnt u_16), (xTs u_16), (xIs u_16), σ2, τ2)) H → va_D A (xW Γ a ((xSet u_16), (xChg u_16), (xTxt u_16), (xLoop u_16), (xFst u_16), (xSnd u_16), (xCnt u_16), (xTs u_16), (xIs u_16), σ2, τ2)) → va_S A s.heap H locs → lv_has ls 4 [(0, .ref (a 0)), (1, .int t), (2, .int g), (3, .int z)] → W p l e rm_X6_idealDifference s m args below meth c H locs 0 0 Q (F0 m 61 ls []) := by
              intro n
              induction n with
              | zero =>
                intro k z g σ2 τ2 ek hk hn2 hs2 ht2 hgt
                omega
              | succ n ih =>
                intro k z g σ2 τ2 ek hk hn2 hs2 ht2 hgt H locs ls hP hD hS hl
                refine lv_iload_n hx hb dX6_idealDifference_61 rfl (lv_at hl 3 rfl) ?_
                refine lv_iload_n hx hb dX6_idealDifference_62 rfl (lv_at hl 1 rfl) ?_
                refine lv_icmp_ge (tgt := 105) hx hb dX6_idealDifference_63 (by decide) (fun c_63 => ?_) (fun c_63 => ?_)
                · -- yes
                  refine lv_iload_n hx hb dX6_idealDifference_105 rfl (lv_at hl 2 rfl) ?_
                  exact re_i hQ ha hx hb hr hlk hAe hP hS dX6_idealDifference_106 (by have e : k = t.toNatClampNeg := (by rw [eT, ek] at c_63; rcases Nat.lt_or_ge k t.toNatClampNeg with q | q; exact absurd c_63 (nI_ge q (by omega)); omega); rw [e, Nat.sub_self] at hgt; rw [show rIdeal x t = (xIdl2 (xPrep x) (fGet (xSet x) 4 / 10).toNatClampNeg t.toNatClampNeg).1 from by simp only [rIdeal, c_2, c_9, c_33, c_63, if_true, if_false], hJ, nI_clamp (by omega), ← eu_16, ← hgt]; rfl) (by have e : k = t.toNatClampNeg := (by rw [eT, ek] at c_63; rcases Nat.lt_or_ge k t.toNatClampNeg with q | q; exact absurd c_63 (nI_ge q (by omega)); omega); rw [e, Nat.sub_self] at hgt; rw [show gIdeal x t = xPut_ideal (xPut_trial (xPrep x) (xIdl2 (xPrep x) (fGet (xSet x) 4 / 10).toNatClampNeg t.toNatClampNeg).2.1) (xIdl2 (xPrep x) (fGet (xSet x) 4 / 10).toNatClampNeg t.toNatClampNeg).2.2 from by simp only [gIdeal, c_2, c_9, c_33, c_63, if_true, if_false], hJ, nI_clamp (by omega), ← eu_16, ← hgt]; rfl)
                · -- no
                  refine lv_aload_n hx hb dX6_idealDifference_66 rfl (lv_at hl 0 rfl) ?_
                  refine va_get (D := gD Γ) (cl := vwCl) (tys := gTy Γ) (ci := 6) (v := .ref (a 46)) (C := RX6) (T := TX6) (N := 11) hx hb hts iX6_idealDifference_6 hown hK hP 0 rfl rfl 9 (Nat.le_of_ble_eq_true rfl) (hts (.fieldLink RX6 53 "DeadTimeLoop" "trial" "LDeadTimeLoop$Loop;") (List.mem_of_getElem? (i := 3) rfl)) (fun _ h9 => h9) rfl dX6_idealDifference_67 ?_
                  refine lv_aload_n hx hb dX6_idealDifference_70 rfl (lv_at hl 0 rfl) ?_
                  refine va_get (D := gD Γ) (cl := vwCl) (tys := gTy Γ) (ci := 6) (v := .ref (a 42)) (C := RX6) (T := TX6) (N := 11) hx hb hts iX6_idealDifference_6 hown hK hP 0 rfl rfl 7 (Nat.le_of_ble_eq_true rfl) (hts (.fieldLink RX6 47 "DeadTimeLoop" "trialSettings" "LDeadTimeLoop$Settings;") (List.mem_of_getElem? (i := 4) rfl)) (fun _ h9 => h9) rfl dX6_idealDifference_71 ?_
                  refine lv_iconst (v := 0) hx hb dX6_idealDifference_74 (by decide) ?_
                  obtain ⟨u_75, eu_75⟩ : ∃ z : Lop, z = fTick σ2 (xTs u_16) 0 := ⟨_, rfl⟩
                  have hM_75 : Cv Γ l yX1_tick wsX1_tick rm_X1_tick [.ref (a 46), .ref (a 42), .int 0] (lopW Γ a 46 σ2 ++ setW Γ a 42 (xTs u_16)) (lopW Γ a 46 u_75 ++ setW Γ a 42 (xTs u_16)) := by rw [eu_75]; exact c_X1_tick Γ l a 46 a 42 σ2 (xTs u_16) 0 (by rw [hs2]; exact nI_pos (by omega))
                  refine ca_Vv hh hl.1 hM_75 (cwV 2 hts gX6_idealDifference_X1_tick rfl rfl rfl (by decide +kernel) ⟨(Nat.le_of_ble_eq_true rfl), (Nat.le_of_ble_eq_true rfl)⟩) (As := [.ref (a 42), .int 0]) (rest := []) rfl dX6_idealDifference_75 rfl (Nat.le_of_ble_eq_true rfl) hP hD hS ([46, 47, 48, 49, 50, 51, 52, 53, 54] ++ [42, 43]) rfl (map_app2 (xB_at_trial Γ a _) (xB_at_trialSettings Γ a _)) (q0 := 46) (ci := 1) rfl rfl rfl 11 rfl rfl (wf := xW Γ a ((xSet u_16), (xChg u_16), (xTxt u_16), (xLoop u_16), (xFst u_16), (xSnd u_16), (xCnt u_16), (xTs u_16), (xIs u_16), u_75, τ2)) ((va_upd_app [46, 47, 48, 49, 50, 51, 52, 53, 54] _ _ [42, 43] _ rfl).trans ((congrArg (fun z => va_upd z [42, 43] _) (xB_up_trial Γ a _ _)).trans (xB_up_trialSettings Γ a _ _))) (xW_addr _ _ _ _) ⟨Nat.zero_le _, Nat.zero_le _⟩ (fun H locs hP hD hS => ?_)
                  refine lv_aload_n hx hb dX6_idealDifference_78 rfl (lv_at hl 0 rfl) ?_
                  refine va_get (D := gD Γ) (cl := vwCl) (tys := gTy Γ) (ci := 6) (v := .ref (a 55)) (C := RX6) (T := TX6) (N := 11) hx hb hts iX6_idealDifference_6 hown hK hP 0 rfl rfl 10 (Nat.le_of_ble_eq_true rfl) (hts (.fieldLink RX6 56 "DeadTimeLoop" "ideal" "LDeadTimeLoop$Loop;") (List.mem_of_getElem? (i := 5) rfl)) (fun _ h9 => h9) rfl dX6_idealDifference_79 ?_
                  refine lv_aload_n hx hb dX6_idealDifference_82 rfl (lv_at hl 0 rfl) ?_
                  refine va_get (D := gD Γ) (cl := vwCl) (tys := gTy Γ) (ci := 6) (v := .ref (a 44)) (C := RX6) (T := TX6) (N := 11) hx hb hts iX6_idealDifference_6 hown hK hP 0 rfl rfl 8 (Nat.le_of_ble_eq_true rfl) (hts (.fieldLink RX6 50 "DeadTimeLoop" "idealSettings" "LDeadTimeLoop$Settings;") (List.mem_of_getElem? (i := 6) rfl)) (fun _ h9 => h9) rfl dX6_idealDifference_83 ?_
                  refine lv_iconst (v := 1) hx hb dX6_idealDifference_86 (by decide) ?_
                  obtain ⟨u_87, eu_87⟩ : ∃ z : Lop, z = fTick τ2 (xIs u_16) 1 := ⟨_, rfl⟩
                  have hM_87 : Cv Γ l yX1_tick wsX1_tick rm_X1_tick [.ref (a 55), .ref (a 44), .int 1] (lopW Γ a 55 τ2 ++ setW Γ a 44 (xIs u_16)) (lopW Γ a 55 u_87 ++ setW Γ a 44 (xIs u_16)) := by rw [eu_87]; exact c_X1_tick Γ l a 55 a 44 τ2 (xIs u_16) 1 (by rw [ht2]; exact nI_pos (by omega))
                  refine ca_Vv hh hl.1 hM_87 (cwV 2 hts gX6_idealDifference_X1_tick rfl rfl rfl (by decide +kernel) ⟨(Nat.le_of_ble_eq_true rfl), (Nat.le_of_ble_eq_true rfl)⟩) (As := [.ref (a 44), .int 1]) (rest := []) rfl dX6_idealDifference_87 rfl (Nat.le_of_ble_eq_true rfl) hP hD hS ([55, 56, 57, 58, 59, 60, 61, 62, 63] ++ [44, 45]) rfl (map_app2 (xB_at_ideal Γ a _) (xB_at_idealSettings Γ a _)) (q0 := 55) (ci := 1) rfl rfl rfl 11 rfl rfl (wf := xW Γ a ((xSet u_16), (xChg u_16), (xTxt u_16), (xLoop u_16), (xFst u_16), (xSnd u_16), (xCnt u_16), (xTs u_16), (xIs u_16), u_75, u_87)) ((va_upd_app [55, 56, 57, 58, 59, 60, 61, 62, 63] _ _ [44, 45] _ rfl).trans ((congrArg (fun z => va_upd z [44, 45] _) (xB_up_ideal Γ a _ _)).trans (xB_up_idealSettings Γ a _ _))) (xW_addr _ _ _ _) ⟨Nat.zero_le _, Nat.zero_le _⟩ (fun H locs hP hD hS => ?_)
                  refine lv_iload_n hx hb dX6_idealDifference_90 rfl (lv_at hl 2 rfl) ?_
                  refine lv_aload_n hx hb dX6_idealDifference_91 rfl (lv_at hl 0 rfl) ?_
                  refine ca_Via hh hl.1 (c_X6_difference Γ l a ((xSet u_16), (xChg u_16), (xTxt u_16), (xLoop u_16), (xFst u_16), (xSnd u_16), (xCnt u_16), (xTs u_16), (xIs u_16), u_75, u_87)) (cwV 0 hts gX6_idealDifference_X6_difference rfl rfl rfl (by decide +kernel) ⟨(Nat.le_of_ble_eq_true rfl), (Nat.le_of_ble_eq_true rfl)⟩) (As := []) (rest := [.int g]) rfl dX6_idealDifference_92 rfl (Nat.le_of_ble_eq_true rfl) hP hD hS (q0 := 0) (ci := 6) rfl rfl rfl (wf := xW Γ a ((xSet u_16), (xChg u_16), (xTxt u_16), (xLoop u_16), (xFst u_16), (xSnd u_16), (xCnt u_16), (xTs u_16), (xIs u_16), u_75, u_87)) (xW_addr _ _ _ _) ⟨Nat.zero_le _, Nat.zero_le _⟩ (fun H locs hP hD hS => ?_)
                  refine va_mmax hx hb (hml.trans hl.1.symm) hown (hts (.methodLink RX6 240 Lib.Math.max.name) (List.mem_of_getElem? (i := 7) rfl)) (hts (.static Lib.Math.max.name) (List.mem_of_getElem? (i := 8) rfl)) (hts (.initialized "java/lang/Math") (List.mem_of_getElem? (i := 9) rfl)) (hts (.code Lib.Math.max.name Lib.Math.max.code 2 (some .int)) (List.mem_of_getElem? (i := 10) rfl)) (Nat.le_of_ble_eq_true rfl) (Nat.le_of_ble_eq_true rfl) (Nat.le_of_ble_eq_true rfl) (Nat.le_of_ble_eq_true rfl) dX6_idealDifference_95 ?_
                  refine W.eq (g2 := F0 m 98 ls [.int (kMax g (fDiff u_75 u_87))]) rfl ?_
                  refine lv_istore_n (lv' := [(2, .int (kMax g (fDiff u_75 u_87))), (0, .ref (a 0)), (1, .int t), (3, .int z)]) hx hb dX6_idealDifference_98 rfl hl (by decide) rfl (fun ls hl => ?_)
                  refine lv_iinc (v := (z + 1)) (lv' := [(3, .int (z + 1)), (2, .int (kMax g (fDiff u_75 u_87))), (0, .ref (a 0)), (1, .int t)]) hx hb dX6_idealDifference_99 hl (k := 3) rfl rfl (by decide) rfl (fun ls hl => ?_)
                  refine lv_goto (tgt := 61) hx hb dX6_idealDifference_102 (by decide) ?_
                  exact ih (k + 1) _ _ u_75 u_87 (by rw [ek]; exact nI_1 k) (by rw [eT, ek] at c_63; have := lt_of_nle c_63 (by omega) (by omega); omega) (by omega) (by rw [eu_75, fTick_now, hs2]; exact nI_1 _) (by rw [eu_87, fTick_now, ht2]; exact nI_1 k) (by rw [eT, ek] at c_63; have := lt_of_nle c_63 (by omega) (by omega); rw [← hgt, show t.toNatClampNeg - k = (t.toNatClampNeg - (k + 1)) + 1 from by omega, fIdN_s, eu_75, eu_87]) _ _ _ hP hD hS (lv_sub hl [2, 3, 1, 0] rfl)
            exact hJ_61 (t.toNatClampNeg + 1) 0 0 _ σ1 (xIdeal u_16) rfl (by omega) (by omega) (by rw [hs, eiJ]; rfl) (by rw [eu_16]; exact xPrep_ideal x) (by rw [show σ1 = xIdl1 u_16 J from hg]; rfl) _ _ _ hP hD hS (lv_sub hl [2, 3, 1, 0] rfl)
          · -- no
            refine lv_aload_n hx hb dX6_idealDifference_36 rfl (lv_at hl 0 rfl) ?_
            refine va_get (D := gD Γ) (cl := vwCl) (tys := gTy Γ) (ci := 6) (v := .ref (a 46)) (C := RX6) (T := TX6) (N := 11) hx hb hts iX6_idealDifference_6 hown hK hP 0 rfl rfl 9 (Nat.le_of_ble_eq_true rfl) (hts (.fieldLink RX6 53 "DeadTimeLoop" "trial" "LDeadTimeLoop$Loop;") (List.mem_of_getElem? (i := 3) rfl)) (fun _ h9 => h9) rfl dX6_idealDifference_37 ?_
            refine lv_aload_n hx hb dX6_idealDifference_40 rfl (lv_at hl 0 rfl) ?_
            refine va_get (D := gD Γ) (cl := vwCl) (tys := gTy Γ) (ci := 6) (v := .ref (a 42)) (C := RX6) (T := TX6) (N := 11) hx hb hts iX6_idealDifference_6 hown hK hP 0 rfl rfl 7 (Nat.le_of_ble_eq_true rfl) (hts (.fieldLink RX6 47 "DeadTimeLoop" "trialSettings" "LDeadTimeLoop$Settings;") (List.mem_of_getElem? (i := 4) rfl)) (fun _ h9 => h9) rfl dX6_idealDifference_41 ?_
            refine lv_iconst (v := 0) hx hb dX6_idealDifference_44 (by decide) ?_
            obtain ⟨u_45, eu_45⟩ : ∃ z : Lop, z = fTick σ1 (xTs u_16) 0 := ⟨_, rfl⟩
            have hM_45 : Cv Γ l yX1_tick wsX1_tick rm_X1_tick [.ref (a 46), .ref (a 42), .int 0] (lopW Γ a 46 σ1 ++ setW Γ a 42 (xTs u_16)) (lopW Γ a 46 u_45 ++ setW Γ a 42 (xTs u_16)) := by rw [eu_45]; exact c_X1_tick Γ l a 46 a 42 σ1 (xTs u_16) 0 (by rw [hs]; exact nI_pos (by omega))
            refine ca_Vv hh hl.1 hM_45 (cwV 2 hts gX6_idealDifference_X1_tick rfl rfl rfl (by decide +kernel) ⟨(Nat.le_of_ble_eq_true rfl), (Nat.le_of_ble_eq_true rfl)⟩) (As := [.ref (a 42), .int 0]) (rest := []) rfl dX6_idealDifference_45 rfl (Nat.le_of_ble_eq_true rfl) hP hD hS ([46, 47, 48, 49, 50, 51, 52, 53, 54] ++ [42, 43]) rfl (map_app2 (xB_at_trial Γ a _) (xB_at_trialSettings Γ a _)) (q0 := 46) (ci := 1) rfl rfl rfl 11 rfl rfl (wf := xW Γ a ((xSet u_16), (xChg u_16), (xTxt u_16), (xLoop u_16), (xFst u_16), (xSnd u_16), (xCnt u_16), (xTs u_16), (xIs u_16), u_45, (xIdeal u_16))) ((va_upd_app [46, 47, 48, 49, 50, 51, 52, 53, 54] _ _ [42, 43] _ rfl).trans ((congrArg (fun z => va_upd z [42, 43] _) (xB_up_trial Γ a _ _)).trans (xB_up_trialSettings Γ a _ _))) (xW_addr _ _ _ _) ⟨Nat.zero_le _, Nat.zero_le _⟩ (fun H locs hP hD hS => ?_)
            refine lv_iinc (v := (y + 1)) (lv' := [(2, .int (y + 1)), (0, .ref (a 0)), (1, .int t)]) hx hb dX6_idealDifference_48 hl (k := 2) rfl rfl (by decide) rfl (fun ls hl => ?_)
            refine lv_goto (tgt := 21) hx hb dX6_idealDifference_51 (by decide) ?_
            exact ih (i + 1) _ u_45 (by rw [ey]; exact nI_1 i) (by rw [hset, hJ, ey] at c_33; have := lt_of_nle c_33 (by omega) (by omega); omega) (by omega) (by rw [eu_45, fTick_now, hs]; exact nI_1 i) (by rw [hset, hJ, ey] at c_33; have := lt_of_nle c_33 (by omega) (by omega); rw [← hg, show J - i = (J - (i + 1)) + 1 from by omega, fAdv_s, eu_45]) _ _ _ hP hD hS (lv_sub hl [1, 2, 0] rfl)
      exact hJ_21 (J + 1) 0 0 (xTrial u_16) rfl (by omega) (by omega) (by rw [eu_16]; exact xPrep_trial x) rfl _ _ _ hP hD hS (lv_sub hl [1, 2, 0] rfl)
    · -- no
      refine lv_ldc hx hb hown (hts (.constant RX6 63 (-2000000001)) (List.mem_of_getElem? (i := 1) rfl)) dX6_idealDifference_12 ?_
      exact re_i hQ ha hx hb hr hlk hAe hP hS dX6_idealDifference_14 (by simp only [rIdeal, c_2, c_9, if_true, if_false]) (by simp only [gIdeal, c_2, c_9, if_true, if_false])
