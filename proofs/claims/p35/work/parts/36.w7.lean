def rm_X1_tick : Room := { frames := 4, cells := 0, slots := 0, locals := 113 }
theorem iX1_tick_1 : ∀ w ∈ u_ws RX1 TX1 9, w ∈ wsX1_tick := fun w h => (List.mem_cons_of_mem _ (List.mem_append_left _ (List.mem_append_left _ (List.mem_append_left _ (List.mem_append_right _ h)))))
set_option maxHeartbeats 1000000 in
set_option maxRecDepth 100000 in
theorem c_X1_tick (Γ : gT) (l : Launch) (a : Nat → Nat) (b : Nat) (a2 : Nat → Nat) (b2 : Nat) (σ : Lop) (v : Sett) (idl : Int32) (hnow : ¬ lNow σ < 0) : Cv Γ l yX1_tick wsX1_tick rm_X1_tick [.ref (a b), .ref (a2 b2), .int idl] (lopW Γ a b σ ++ setW Γ a2 b2 v) (lopW Γ a b (fTick σ v idl) ++ setW Γ a2 b2 v) := by
  refine Cv.of (cc := cX1_tick) (own := RX1) (nL := 5) (ret := none) (by decide +kernel) rfl rfl (Nat.le_of_ble_eq_true rfl) ?_
  intro p e s m args below meth c A Q H locs ls ha hAe hQ hx hb hml hr hts hown hlk hP hK hD hS hA hG hl
  have hh : Hd Γ p s m args c cX1_tick RX1 5 wsX1_tick A := ⟨⟨hx, hb, hml, hown, hts⟩, hK, hA, hG⟩
  have hl : lv_has ls 5 [(0, .ref (a b)), (1, .ref (a2 b2)), (2, .int idl)] := hl
  refine lv_aload_n hx hb dX1_tick_0 rfl (lv_at hl 0 rfl) ?_
  refine va_get (D := gD Γ) (cl := vwCl) (tys := gTy Γ) (ci := 1) (v := .ref (a (b + 1))) (C := RX1) (T := TX1) (N := 9) hx hb hts iX1_tick_1 hown hK hP 0 rfl rfl 5 (Nat.le_of_ble_eq_true rfl) (hts (.fieldLink RX1 27 "DeadTimeLoop$Loop" "present" "[I") (List.mem_of_getElem? (i := 1) rfl)) (fun _ h9 => h9) rfl dX1_tick_1 ?_
  refine lv_iconst (v := 2) hx hb dX1_tick_4 (by decide) ?_
  refine ka_iald (D := gD Γ) (cl := vwCl) (tys := gTy Γ) hx hb hK hP 1 0 rfl rfl 2 (by decide) (by decide) (by decide) (v := ((lPres σ) 2)) rfl dX1_tick_5 ?_
  refine lv_istore_n (lv' := [(3, .int ((lPres σ) 2)), (0, .ref (a b)), (1, .ref (a2 b2)), (2, .int idl)]) hx hb dX1_tick_6 rfl hl (by decide) rfl (fun ls hl => ?_)
  refine lv_aload_n hx hb dX1_tick_7 rfl (lv_at hl 1 rfl) ?_
  refine va_get (D := gD Γ) (cl := vwCl) (tys := gTy Γ) (ci := 1) (v := .ref (a (b + 1))) (C := RX1) (T := TX1) (N := 9) hx hb hts iX1_tick_1 hown hK hP 0 rfl rfl 5 (Nat.le_of_ble_eq_true rfl) (hts (.fieldLink RX1 27 "DeadTimeLoop$Loop" "present" "[I") (List.mem_of_getElem? (i := 1) rfl)) (fun _ h9 => h9) rfl dX1_tick_8 ?_
  refine lv_iconst (v := 1) hx hb dX1_tick_11 (by decide) ?_
  refine lv_aload_n hx hb dX1_tick_12 rfl (lv_at hl 1 rfl) ?_
  refine va_get (D := gD Γ) (cl := vwCl) (tys := gTy Γ) (ci := 1) (v := .ref (a (b + 1))) (C := RX1) (T := TX1) (N := 9) hx hb hts iX1_tick_1 hown hK hP 0 rfl rfl 5 (Nat.le_of_ble_eq_true rfl) (hts (.fieldLink RX1 27 "DeadTimeLoop$Loop" "present" "[I") (List.mem_of_getElem? (i := 1) rfl)) (fun _ h9 => h9) rfl dX1_tick_13 ?_
  refine lv_bipush (v := 8) hx hb dX1_tick_16 (by decide) ?_
  refine ka_iald (D := gD Γ) (cl := vwCl) (tys := gTy Γ) hx hb hK hP 1 0 rfl rfl 8 (by decide) (by decide) (by decide) (v := ((lPres σ) 8)) rfl dX1_tick_18 ?_
  refine lv_aload_n hx hb dX1_tick_19 rfl (lv_at hl 1 rfl) ?_
  refine lv_aload_n hx hb dX1_tick_20 rfl (lv_at hl 2 rfl) ?_
  refine lv_bipush (v := 14) hx hb dX1_tick_21 (by decide) ?_
  refine ca_Vi hh hl.1 (c_X3_get Γ l a2 b2 v 14) (cwV 1 hts gX1_tick_X3_get rfl rfl rfl (by decide +kernel) ⟨(Nat.le_of_ble_eq_true rfl), (Nat.le_of_ble_eq_true rfl)⟩) (As := [.int 14]) (rest := [.ref (a b), .int ((lPres σ) 8), .int 1, .ref (a (b + 1))]) rfl dX1_tick_23 rfl (Nat.le_of_ble_eq_true rfl) hP hD hS [9, 10] rfl rfl (q0 := 9) (ci := 3) rfl rfl rfl 2 rfl rfl (wf := lopW Γ a b σ ++ setW Γ a2 b2 v) rfl rfl ⟨Nat.zero_le _, Nat.zero_le _⟩ (fun H locs hP hD hS => ?_)
  refine ca_Vi hh hl.1 (c_X1_noise Γ l a b σ (fGet v 14)) (cwV 1 hts gX1_tick_X1_noise rfl rfl rfl (by decide +kernel) ⟨(Nat.le_of_ble_eq_true rfl), (Nat.le_of_ble_eq_true rfl)⟩) (As := [.int (fGet v 14)]) (rest := [.int ((lPres σ) 8), .int 1, .ref (a (b + 1))]) rfl dX1_tick_26 rfl (Nat.le_of_ble_eq_true rfl) hP hD hS [0, 1, 2, 3, 4, 5, 6, 7, 8] rfl rfl (q0 := 0) (ci := 1) rfl rfl rfl 9 rfl rfl (wf := lopW Γ a b σ ++ setW Γ a2 b2 v) rfl rfl ⟨Nat.zero_le _, Nat.zero_le _⟩ (fun H locs hP hD hS => ?_)
  refine lv_topi (fun r_26 er_26 => ?_)
  have er_26 : r_26 = (fNoise (lNow σ) (lSeed σ) (fGet v 14)) := er_26
  refine lv_iadd hx hb dX1_tick_29 ?_
  refine lv_topi (fun r_30 er_30 => ?_)
  have er_30 : r_30 = (((lPres σ) 8) + r_26) := er_30
  refine ka_iast (D := gD Γ) (cl := vwCl) (tys := gTy Γ) hx hb hK hP hD hS 1 0 rfl rfl 1 (by decide) (by decide) (by decide) (wf := lopW Γ a b ((lNow σ), (lLoad σ), (lSeed σ), (lBad σ), (lGood σ), (upd (lPres σ) 1 r_30), (lRecs σ), (lSec σ), (lWat σ)) ++ setW Γ a2 b2 v) rfl dX1_tick_30 (fun H locs hP hD hS => ?_)
  refine lv_aload_n hx hb dX1_tick_31 rfl (lv_at hl 1 rfl) ?_
  refine va_get (D := gD Γ) (cl := vwCl) (tys := gTy Γ) (ci := 1) (v := .ref (a (b + 1))) (C := RX1) (T := TX1) (N := 9) hx hb hts iX1_tick_1 hown hK hP 0 rfl rfl 5 (Nat.le_of_ble_eq_true rfl) (hts (.fieldLink RX1 27 "DeadTimeLoop$Loop" "present" "[I") (List.mem_of_getElem? (i := 1) rfl)) (fun _ h9 => h9) rfl dX1_tick_32 ?_
  refine lv_iconst (v := 4) hx hb dX1_tick_35 (by decide) ?_
  refine lv_aload_n hx hb dX1_tick_36 rfl (lv_at hl 1 rfl) ?_
  refine lv_iconst (v := 3) hx hb dX1_tick_37 (by decide) ?_
  refine lv_aload_n hx hb dX1_tick_38 rfl (lv_at hl 1 rfl) ?_
  refine va_get (D := gD Γ) (cl := vwCl) (tys := gTy Γ) (ci := 1) (v := .ref (a (b + 1))) (C := RX1) (T := TX1) (N := 9) hx hb hts iX1_tick_1 hown hK hP 0 rfl rfl 5 (Nat.le_of_ble_eq_true rfl) (hts (.fieldLink RX1 27 "DeadTimeLoop$Loop" "present" "[I") (List.mem_of_getElem? (i := 1) rfl)) (fun _ h9 => h9) rfl dX1_tick_39 ?_
  refine lv_iconst (v := 3) hx hb dX1_tick_42 (by decide) ?_
  refine ka_iald (D := gD Γ) (cl := vwCl) (tys := gTy Γ) hx hb hK hP 1 0 rfl rfl 3 (by decide) (by decide) (by decide) (v := ((lPres σ) 3)) rfl dX1_tick_43 ?_
  refine lv_aload_n hx hb dX1_tick_44 rfl (lv_at hl 2 rfl) ?_
  refine lv_bipush (v := 7) hx hb dX1_tick_45 (by decide) ?_
  refine ca_Vi hh hl.1 (c_X3_get Γ l a2 b2 v 7) (cwV 1 hts gX1_tick_X3_get rfl rfl rfl (by decide +kernel) ⟨(Nat.le_of_ble_eq_true rfl), (Nat.le_of_ble_eq_true rfl)⟩) (As := [.int 7]) (rest := [.int ((lPres σ) 3), .int 3, .ref (a b), .int 4, .ref (a (b + 1))]) rfl dX1_tick_47 rfl (Nat.le_of_ble_eq_true rfl) hP hD hS [9, 10] rfl rfl (q0 := 9) (ci := 3) rfl rfl rfl 2 rfl rfl (wf := lopW Γ a b ((lNow σ), (lLoad σ), (lSeed σ), (lBad σ), (lGood σ), (upd (lPres σ) 1 r_30), (lRecs σ), (lSec σ), (lWat σ)) ++ setW Γ a2 b2 v) rfl rfl ⟨Nat.zero_le _, Nat.zero_le _⟩ (fun H locs hP hD hS => ?_)
  refine ca_Vi hh hl.1 (c_X1_delayed Γ l a b ((lNow σ), (lLoad σ), (lSeed σ), (lBad σ), (lGood σ), (upd (lPres σ) 1 r_30), (lRecs σ), (lSec σ), (lWat σ)) 3 ((lPres σ) 3) (fGet v 7)) (cwV 3 hts gX1_tick_X1_delayed rfl rfl rfl (by decide +kernel) ⟨(Nat.le_of_ble_eq_true rfl), (Nat.le_of_ble_eq_true rfl)⟩) (As := [.int 3, .int ((lPres σ) 3), .int (fGet v 7)]) (rest := [.int 4, .ref (a (b + 1))]) rfl dX1_tick_50 rfl (Nat.le_of_ble_eq_true rfl) hP hD hS [0, 1, 2, 3, 4, 5, 6, 7, 8] rfl rfl (q0 := 0) (ci := 1) rfl rfl rfl 9 rfl rfl (wf := lopW Γ a b ((lNow σ), (lLoad σ), (lSeed σ), (lBad σ), (lGood σ), (upd (lPres σ) 1 r_30), (lRecs σ), (lSec σ), (lWat σ)) ++ setW Γ a2 b2 v) rfl rfl ⟨Nat.zero_le _, Nat.zero_le _⟩ (fun H locs hP hD hS => ?_)
  refine lv_topi (fun r_50 er_50 => ?_)
  have er_50 : r_50 = (fDelay (lNow σ) (lRecs σ) 3 ((lPres σ) 3) (fGet v 7)) := er_50
  refine ka_iast (D := gD Γ) (cl := vwCl) (tys := gTy Γ) hx hb hK hP hD hS 1 0 rfl rfl 4 (by decide) (by decide) (by decide) (wf := lopW Γ a b ((lNow σ), (lLoad σ), (lSeed σ), (lBad σ), (lGood σ), (upd (upd (lPres σ) 1 r_30) 4 r_50), (lRecs σ), (lSec σ), (lWat σ)) ++ setW Γ a2 b2 v) rfl dX1_tick_53 (fun H locs hP hD hS => ?_)
  refine lv_aload_n hx hb dX1_tick_54 rfl (lv_at hl 1 rfl) ?_
  refine va_get (D := gD Γ) (cl := vwCl) (tys := gTy Γ) (ci := 1) (v := .ref (a (b + 1))) (C := RX1) (T := TX1) (N := 9) hx hb hts iX1_tick_1 hown hK hP 0 rfl rfl 5 (Nat.le_of_ble_eq_true rfl) (hts (.fieldLink RX1 27 "DeadTimeLoop$Loop" "present" "[I") (List.mem_of_getElem? (i := 1) rfl)) (fun _ h9 => h9) rfl dX1_tick_55 ?_
  refine lv_iconst (v := 1) hx hb dX1_tick_58 (by decide) ?_
  refine ka_iald (D := gD Γ) (cl := vwCl) (tys := gTy Γ) hx hb hK hP 1 0 rfl rfl 1 (by decide) (by decide) (by decide) (v := r_30) rfl dX1_tick_59 ?_
  refine lv_aload_n hx hb dX1_tick_60 rfl (lv_at hl 1 rfl) ?_
  refine va_get (D := gD Γ) (cl := vwCl) (tys := gTy Γ) (ci := 1) (v := .ref (a (b + 1))) (C := RX1) (T := TX1) (N := 9) hx hb hts iX1_tick_1 hown hK hP 0 rfl rfl 5 (Nat.le_of_ble_eq_true rfl) (hts (.fieldLink RX1 27 "DeadTimeLoop$Loop" "present" "[I") (List.mem_of_getElem? (i := 1) rfl)) (fun _ h9 => h9) rfl dX1_tick_61 ?_
  refine lv_iconst (v := 4) hx hb dX1_tick_64 (by decide) ?_
  refine ka_iald (D := gD Γ) (cl := vwCl) (tys := gTy Γ) hx hb hK hP 1 0 rfl rfl 4 (by decide) (by decide) (by decide) (v := r_50) rfl dX1_tick_65 ?_
  refine lv_isub hx hb dX1_tick_66 ?_
  refine lv_istore (lv' := [(4, .int (r_30 - r_50)), (3, .int ((lPres σ) 2)), (0, .ref (a b)), (1, .ref (a2 b2)), (2, .int idl)]) hx hb dX1_tick_67 hl (by decide) rfl (fun ls hl => ?_)
  refine lv_aload_n hx hb dX1_tick_69 rfl (lv_at hl 2 rfl) ?_
  refine va_get (D := gD Γ) (cl := vwCl) (tys := gTy Γ) (ci := 1) (v := .ref (a (b + 1))) (C := RX1) (T := TX1) (N := 9) hx hb hts iX1_tick_1 hown hK hP 0 rfl rfl 5 (Nat.le_of_ble_eq_true rfl) (hts (.fieldLink RX1 27 "DeadTimeLoop$Loop" "present" "[I") (List.mem_of_getElem? (i := 1) rfl)) (fun _ h9 => h9) rfl dX1_tick_70 ?_
  refine lv_iconst (v := 5) hx hb dX1_tick_73 (by decide) ?_
  refine lv_aload_n hx hb dX1_tick_74 rfl (lv_at hl 2 rfl) ?_
  refine va_get (D := gD Γ) (cl := vwCl) (tys := gTy Γ) (ci := 1) (v := .ref (a (b + 1))) (C := RX1) (T := TX1) (N := 9) hx hb hts iX1_tick_1 hown hK hP 0 rfl rfl 5 (Nat.le_of_ble_eq_true rfl) (hts (.fieldLink RX1 27 "DeadTimeLoop$Loop" "present" "[I") (List.mem_of_getElem? (i := 1) rfl)) (fun _ h9 => h9) rfl dX1_tick_75 ?_
  refine lv_iconst (v := 5) hx hb dX1_tick_78 (by decide) ?_
  refine ka_iald (D := gD Γ) (cl := vwCl) (tys := gTy Γ) hx hb hK hP 1 0 rfl rfl 5 (by decide) (by decide) (by decide) (v := ((lPres σ) 5)) rfl dX1_tick_79 ?_
  refine lv_i2l (v := ((lPres σ) 5).toInt64) hx hb dX1_tick_80 rfl ?_
  refine lv_iload hx hb dX1_tick_81 (lv_at hl 0 rfl) ?_
  refine lv_i2l (v := (r_30 - r_50).toInt64) hx hb dX1_tick_83 rfl ?_
  refine lv_sipush (v := 1000) hx hb dX1_tick_84 (by decide) ?_
  refine lv_aload_n hx hb dX1_tick_87 rfl (lv_at hl 3 rfl) ?_
  refine lv_bipush (v := 8) hx hb dX1_tick_88 (by decide) ?_
  refine ca_Vi hh hl.1 (c_X3_get Γ l a2 b2 v 8) (cwV 1 hts gX1_tick_X3_get rfl rfl rfl (by decide +kernel) ⟨(Nat.le_of_ble_eq_true rfl), (Nat.le_of_ble_eq_true rfl)⟩) (As := [.int 8]) (rest := [.int 1000, .long ((r_30 - r_50).toInt64), .long (((lPres σ) 5).toInt64), .int 5, .ref (a (b + 1))]) rfl dX1_tick_90 rfl (Nat.le_of_ble_eq_true rfl) hP hD hS [9, 10] rfl rfl (q0 := 9) (ci := 3) rfl rfl rfl 2 rfl rfl (wf := lopW Γ a b ((lNow σ), (lLoad σ), (lSeed σ), (lBad σ), (lGood σ), (upd (upd (lPres σ) 1 r_30) 4 r_50), (lRecs σ), (lSec σ), (lWat σ)) ++ setW Γ a2 b2 v) rfl rfl ⟨Nat.zero_le _, Nat.zero_le _⟩ (fun H locs hP hD hS => ?_)
  refine lv_isub hx hb dX1_tick_93 ?_
  refine lv_i2l (v := (1000 - (fGet v 8)).toInt64) hx hb dX1_tick_94 rfl ?_
  refine ca_Ni hh hl.1 (c_X6_stepped Γ l (((lPres σ) 5).toInt64) ((r_30 - r_50).toInt64) ((1000 - (fGet v 8)).toInt64)) ⟨va_cnB (host := RX6) 3 hts gX1_tick_X6_stepped_n97 rfl rfl rfl hG.1.2.2.2.2.2.2.1 (hts (.initialized RX6) (List.mem_of_getElem? (i := 16) rfl)) (by decide +kernel) ⟨(Nat.le_of_ble_eq_true rfl), (Nat.le_of_ble_eq_true rfl)⟩, (hts (.static yX6_stepped) (List.mem_of_getElem? (i := 47) rfl)), trivial⟩ (As := [.long (((lPres σ) 5).toInt64), .long ((r_30 - r_50).toInt64), .long ((1000 - (fGet v 8)).toInt64)]) (rest := [.int 5, .ref (a (b + 1))]) rfl dX1_tick_95 rfl (Nat.le_of_ble_eq_true rfl) hP hD hS ⟨Nat.zero_le _, Nat.zero_le _⟩ (fun H locs hP hS => ?_)
  refine lv_topi (fun r_95 er_95 => ?_)
  have er_95 : r_95 = (fStep (((lPres σ) 5).toInt64) ((r_30 - r_50).toInt64) ((1000 - (fGet v 8)).toInt64)) := er_95
  refine ka_iast (D := gD Γ) (cl := vwCl) (tys := gTy Γ) hx hb hK hP hD hS 1 0 rfl rfl 5 (by decide) (by decide) (by decide) (wf := lopW Γ a b ((lNow σ), (lLoad σ), (lSeed σ), (lBad σ), (lGood σ), (upd (upd (upd (lPres σ) 1 r_30) 4 r_50) 5 r_95), (lRecs σ), (lSec σ), (lWat σ)) ++ setW Γ a2 b2 v) rfl dX1_tick_98 (fun H locs hP hD hS => ?_)
  refine lv_aload_n hx hb dX1_tick_99 rfl (lv_at hl 2 rfl) ?_
  have hJ_119 : ∀ (v9 : Int32), (v9 = fLoud (kAbs (r_30 - r_50)) (fGet v 12)) → ∀ (H : Heap) (locs : List Loc) (ls : Array Slot), va_P (gD Γ) vwCl (lopW Γ a b ((lNow σ), (lLoad σ), (lSeed σ), (lBad σ), (lGood σ), (upd (upd (upd (lPres σ) 1 r_30) 4 r_50) 5 r_95), (lRecs σ), (lSec σ), (lWat σ)) ++ setW Γ a2 b2 v) H → va_D A (lopW Γ a b ((lNow σ), (lLoad σ), (lSeed σ), (lBad σ), (lGood σ), (upd (upd (upd (lPres σ) 1 r_30) 4 r_50) 5 r_95), (lRecs σ), (lSec σ), (lWat σ)) ++ setW Γ a2 b2 v) → va_S A s.heap H locs → lv_has ls 5 [(0, .ref (a b)), (1, .ref (a2 b2)), (2, .int idl), (3, .int ((lPres σ) 2)), (4, .int (r_30 - r_50))] → W p l e rm_X1_tick s m args below meth c H locs 0 0 Q (F0 m 119 ls [.int v9, .ref (a b)]) := by
    intro v9 e9 H locs ls hP hD hS hl
    refine lv_aload_n hx hb dX1_tick_119 rfl (lv_at hl 1 rfl) ?_
    refine lv_bipush (v := 13) hx hb dX1_tick_120 (by decide) ?_
    refine ca_Vi hh hl.1 (c_X3_get Γ l a2 b2 v 13) (cwV 1 hts gX1_tick_X3_get rfl rfl rfl (by decide +kernel) ⟨(Nat.le_of_ble_eq_true rfl), (Nat.le_of_ble_eq_true rfl)⟩) (As := [.int 13]) (rest := [.int v9, .ref (a b)]) rfl dX1_tick_122 rfl (Nat.le_of_ble_eq_true rfl) hP hD hS [9, 10] rfl rfl (q0 := 9) (ci := 3) rfl rfl rfl 2 rfl rfl (wf := lopW Γ a b ((lNow σ), (lLoad σ), (lSeed σ), (lBad σ), (lGood σ), (upd (upd (upd (lPres σ) 1 r_30) 4 r_50) 5 r_95), (lRecs σ), (lSec σ), (lWat σ)) ++ setW Γ a2 b2 v) rfl rfl ⟨Nat.zero_le _, Nat.zero_le _⟩ (fun H locs hP hD hS => ?_)
    obtain ⟨u_125, eu_125⟩ : ∃ z : Lop, z = fJudge ((lNow σ), (lLoad σ), (lSeed σ), (lBad σ), (lGood σ), (upd (upd (upd (lPres σ) 1 r_30) 4 r_50) 5 r_95), (lRecs σ), (lSec σ), (lWat σ)) v9 (fGet v 13) := ⟨_, rfl⟩
    have hM_125 : Cv Γ l yX1_judge wsX1_judge rm_X1_judge [.ref (a b), .int v9, .int (fGet v 13)] (lopW Γ a b ((lNow σ), (lLoad σ), (lSeed σ), (lBad σ), (lGood σ), (upd (upd (upd (lPres σ) 1 r_30) 4 r_50) 5 r_95), (lRecs σ), (lSec σ), (lWat σ))) (lopW Γ a b u_125) := by rw [eu_125]; exact c_X1_judge Γ l a b ((lNow σ), (lLoad σ), (lSeed σ), (lBad σ), (lGood σ), (upd (upd (upd (lPres σ) 1 r_30) 4 r_50) 5 r_95), (lRecs σ), (lSec σ), (lWat σ)) v9 (fGet v 13)
    refine ca_Vv hh hl.1 hM_125 (cwV 2 hts gX1_tick_X1_judge rfl rfl rfl (by decide +kernel) ⟨(Nat.le_of_ble_eq_true rfl), (Nat.le_of_ble_eq_true rfl)⟩) (As := [.int v9, .int (fGet v 13)]) (rest := []) rfl dX1_tick_125 rfl (Nat.le_of_ble_eq_true rfl) hP hD hS [0, 1, 2, 3, 4, 5, 6, 7, 8] rfl rfl (q0 := 0) (ci := 1) rfl rfl rfl 9 rfl rfl (wf := lopW Γ a b u_125 ++ setW Γ a2 b2 v) rfl rfl ⟨Nat.zero_le _, Nat.zero_le _⟩ (fun H locs hP hD hS => ?_)
    refine lv_aload_n hx hb dX1_tick_128 rfl (lv_at hl 0 rfl) ?_
    refine lv_aload_n hx hb dX1_tick_129 rfl (lv_at hl 1 rfl) ?_
    refine lv_iload_n hx hb dX1_tick_130 rfl (lv_at hl 2 rfl) ?_
    obtain ⟨u_131, eu_131⟩ : ∃ z : Lop, z = fTick2 u_125 v idl := ⟨_, rfl⟩
    have hM_131 : Cv Γ l yX1_control wsX1_control rm_X1_control [.ref (a b), .ref (a2 b2), .int idl] (lopW Γ a b u_125 ++ setW Γ a2 b2 v) (lopW Γ a b u_131 ++ setW Γ a2 b2 v) := by rw [eu_131]; exact c_X1_control Γ l a b a2 b2 u_125 v idl
    refine ca_Vva hh hl.1 hM_131 (cwV 2 hts gX1_tick_X1_control rfl rfl rfl (by decide +kernel) ⟨(Nat.le_of_ble_eq_true rfl), (Nat.le_of_ble_eq_true rfl)⟩) (As := [.ref (a2 b2), .int idl]) (rest := []) rfl dX1_tick_131 rfl (Nat.le_of_ble_eq_true rfl) hP hD hS (q0 := 0) (ci := 1) rfl rfl rfl (wf := lopW Γ a b u_131 ++ setW Γ a2 b2 v) rfl ⟨Nat.zero_le _, Nat.zero_le _⟩ (fun H locs hP hD hS => ?_)
    refine lv_aload_n hx hb dX1_tick_134 rfl (lv_at hl 0 rfl) ?_
    obtain ⟨u_135, eu_135⟩ : ∃ z : Lop, z = fTick3 u_131 := ⟨_, rfl⟩
    have hM_135 : Cv Γ l yX1_keepRecords wsX1_keepRecords rm_X1_keepRecords [.ref (a b)] (lopW Γ a b u_131) (lopW Γ a b u_135) := by rw [eu_135]; exact c_X1_keepRecords Γ l a b u_131 (by rw [eu_131, fTick2_now, eu_125, fJudge_now]; exact hnow)
    refine ca_Vv hh hl.1 hM_135 (cwV 0 hts gX1_tick_X1_keepRecords rfl rfl rfl (by decide +kernel) ⟨(Nat.le_of_ble_eq_true rfl), (Nat.le_of_ble_eq_true rfl)⟩) (As := []) (rest := []) rfl dX1_tick_135 rfl (Nat.le_of_ble_eq_true rfl) hP hD hS [0, 1, 2, 3, 4, 5, 6, 7, 8] rfl rfl (q0 := 0) (ci := 1) rfl rfl rfl 9 rfl rfl (wf := lopW Γ a b u_135 ++ setW Γ a2 b2 v) rfl rfl ⟨Nat.zero_le _, Nat.zero_le _⟩ (fun H locs hP hD hS => ?_)
    refine lv_aload_n hx hb dX1_tick_138 rfl (lv_at hl 0 rfl) ?_
    refine va_get (D := gD Γ) (cl := vwCl) (tys := gTy Γ) (ci := 1) (v := .ref (a (b + 3))) (C := RX1) (T := TX1) (N := 9) hx hb hts iX1_tick_1 hown hK hP 0 rfl rfl 7 (Nat.le_of_ble_eq_true rfl) (hts (.fieldLink RX1 37 "DeadTimeLoop$Loop" "section" "LDeadTimeLoop$Section;") (List.mem_of_getElem? (i := 6) rfl)) (fun _ h9 => h9) rfl dX1_tick_139 ?_
    refine lv_aload_n hx hb dX1_tick_142 rfl (lv_at hl 0 rfl) ?_
    refine va_get (D := gD Γ) (cl := vwCl) (tys := gTy Γ) (ci := 1) (v := .ref (a (b + 1))) (C := RX1) (T := TX1) (N := 9) hx hb hts iX1_tick_1 hown hK hP 0 rfl rfl 5 (Nat.le_of_ble_eq_true rfl) (hts (.fieldLink RX1 27 "DeadTimeLoop$Loop" "present" "[I") (List.mem_of_getElem? (i := 1) rfl)) (fun _ h9 => h9) rfl dX1_tick_143 ?_
    refine lv_iconst (v := 0) hx hb dX1_tick_146 (by decide) ?_
    refine ka_iald (D := gD Γ) (cl := vwCl) (tys := gTy Γ) hx hb hK hP 1 0 rfl rfl 0 (by decide) (by decide) (by decide) (v := ((lPres u_135) 0)) rfl dX1_tick_147 ?_
    refine lv_aload_n hx hb dX1_tick_148 rfl (lv_at hl 0 rfl) ?_
    refine va_get (D := gD Γ) (cl := vwCl) (tys := gTy Γ) (ci := 1) (v := .ref (a (b + 1))) (C := RX1) (T := TX1) (N := 9) hx hb hts iX1_tick_1 hown hK hP 0 rfl rfl 5 (Nat.le_of_ble_eq_true rfl) (hts (.fieldLink RX1 27 "DeadTimeLoop$Loop" "present" "[I") (List.mem_of_getElem? (i := 1) rfl)) (fun _ h9 => h9) rfl dX1_tick_149 ?_
    refine lv_iconst (v := 1) hx hb dX1_tick_152 (by decide) ?_
    refine ka_iald (D := gD Γ) (cl := vwCl) (tys := gTy Γ) hx hb hK hP 1 0 rfl rfl 1 (by decide) (by decide) (by decide) (v := ((lPres u_135) 1)) rfl dX1_tick_153 ?_
    refine lv_aload_n hx hb dX1_tick_154 rfl (lv_at hl 0 rfl) ?_
    refine va_get (D := gD Γ) (cl := vwCl) (tys := gTy Γ) (ci := 1) (v := .ref (a (b + 1))) (C := RX1) (T := TX1) (N := 9) hx hb hts iX1_tick_1 hown hK hP 0 rfl rfl 5 (Nat.le_of_ble_eq_true rfl) (hts (.fieldLink RX1 27 "DeadTimeLoop$Loop" "present" "[I") (List.mem_of_getElem? (i := 1) rfl)) (fun _ h9 => h9) rfl dX1_tick_155 ?_
    refine lv_iconst (v := 2) hx hb dX1_tick_158 (by decide) ?_
    refine ka_iald (D := gD Γ) (cl := vwCl) (tys := gTy Γ) hx hb hK hP 1 0 rfl rfl 2 (by decide) (by decide) (by decide) (v := ((lPres u_135) 2)) rfl dX1_tick_159 ?_
    refine lv_iload_n hx hb dX1_tick_160 rfl (lv_at hl 3 rfl) ?_
    refine lv_isub hx hb dX1_tick_161 ?_
    obtain ⟨u_162, eu_162⟩ : ∃ z : Sec, z = fSecSee (lSec u_135) ((lPres u_135) 0) ((lPres u_135) 1) (((lPres u_135) 2) - ((lPres σ) 2)) := ⟨_, rfl⟩
    have hM_162 : Cv Γ l yX2_see wsX2_see rm_X2_see [.ref (a (b + 3)), .int ((lPres u_135) 0), .int ((lPres u_135) 1), .int (((lPres u_135) 2) - ((lPres σ) 2))] (secW Γ a (b + 3) (lSec u_135)) (secW Γ a (b + 3) u_162) := by rw [eu_162]; exact c_X2_see Γ l a (b + 3) (lSec u_135) ((lPres u_135) 0) ((lPres u_135) 1) (((lPres u_135) 2) - ((lPres σ) 2))
    refine ca_Vv hh hl.1 hM_162 (cwV 3 hts gX1_tick_X2_see rfl rfl rfl (by decide +kernel) ⟨(Nat.le_of_ble_eq_true rfl), (Nat.le_of_ble_eq_true rfl)⟩) (As := [.int ((lPres u_135) 0), .int ((lPres u_135) 1), .int (((lPres u_135) 2) - ((lPres σ) 2))]) (rest := []) rfl dX1_tick_162 rfl (Nat.le_of_ble_eq_true rfl) hP hD hS [3] rfl rfl (q0 := 3) (ci := 2) rfl rfl rfl 1 rfl rfl (wf := lopW Γ a b ((lNow u_135), (lLoad u_135), (lSeed u_135), (lBad u_135), (lGood u_135), (lPres u_135), (lRecs u_135), u_162, (lWat u_135)) ++ setW Γ a2 b2 v) rfl rfl ⟨Nat.zero_le _, Nat.zero_le _⟩ (fun H locs hP hD hS => ?_)
    refine lv_aload_n hx hb dX1_tick_165 rfl (lv_at hl 0 rfl) ?_
    refine va_get (D := gD Γ) (cl := vwCl) (tys := gTy Γ) (ci := 1) (v := .ref (a (b + 4))) (C := RX1) (T := TX1) (N := 9) hx hb hts iX1_tick_1 hown hK hP 0 rfl rfl 8 (Nat.le_of_ble_eq_true rfl) (hts (.fieldLink RX1 44 "DeadTimeLoop$Loop" "watches" "LDeadTimeLoop$Watches;") (List.mem_of_getElem? (i := 7) rfl)) (fun _ h9 => h9) rfl dX1_tick_166 ?_
    refine lv_aload_n hx hb dX1_tick_169 rfl (lv_at hl 0 rfl) ?_
    refine va_get (D := gD Γ) (cl := vwCl) (tys := gTy Γ) (ci := 1) (v := .ref (a (b + 1))) (C := RX1) (T := TX1) (N := 9) hx hb hts iX1_tick_1 hown hK hP 0 rfl rfl 5 (Nat.le_of_ble_eq_true rfl) (hts (.fieldLink RX1 27 "DeadTimeLoop$Loop" "present" "[I") (List.mem_of_getElem? (i := 1) rfl)) (fun _ h9 => h9) rfl dX1_tick_170 ?_
    refine lv_aload_n hx hb dX1_tick_173 rfl (lv_at hl 0 rfl) ?_
    refine va_get (D := gD Γ) (cl := vwCl) (tys := gTy Γ) (ci := 1) (v := .int (lNow u_135)) (C := RX1) (T := TX1) (N := 9) hx hb hts iX1_tick_1 hown hK hP 0 rfl rfl 0 (Nat.le_of_ble_eq_true rfl) (hts (.fieldLink RX1 9 "DeadTimeLoop$Loop" "now" "I") (List.mem_of_getElem? (i := 8) rfl)) (fun _ h9 => h9) rfl dX1_tick_174 ?_
    obtain ⟨u_177, eu_177⟩ : ∃ z : Wat, z = fWsee (lWat u_135) (lPres u_135) (lNow u_135) := ⟨_, rfl⟩
    have hM_177 : Cv Γ l yX5_see wsX5_see rm_X5_see [.ref (a (b + 4)), .ref (a (b + 1)), .int (lNow u_135)] (watW Γ a (b + 4) (lWat u_135) ++ arrP Γ a (b + 1) (lPres u_135)) (watW Γ a (b + 4) u_177 ++ arrP Γ a (b + 1) (lPres u_135)) := by rw [eu_177]; exact c_X5_see Γ l a (b + 4) a (b + 1) (lWat u_135) (lPres u_135) (lNow u_135)
    refine ca_Vv hh hl.1 hM_177 (cwV 2 hts gX1_tick_X5_see rfl rfl rfl (by decide +kernel) ⟨(Nat.le_of_ble_eq_true rfl), (Nat.le_of_ble_eq_true rfl)⟩) (As := [.ref (a (b + 1)), .int (lNow u_135)]) (rest := []) rfl dX1_tick_177 rfl (Nat.le_of_ble_eq_true rfl) hP hD hS [4, 5, 6, 7, 8, 1] rfl rfl (q0 := 4) (ci := 5) rfl rfl rfl 6 rfl rfl (wf := lopW Γ a b ((lNow u_135), (lLoad u_135), (lSeed u_135), (lBad u_135), (lGood u_135), (lPres u_135), (lRecs u_135), u_162, u_177) ++ setW Γ a2 b2 v) rfl rfl ⟨Nat.zero_le _, Nat.zero_le _⟩ (fun H locs hP hD hS => ?_)
    refine lv_aload_n hx hb dX1_tick_180 rfl (lv_at hl 0 rfl) ?_
    refine lv_aload_n hx hb dX1_tick_181 rfl (lv_at hl 1 rfl) ?_
    obtain ⟨u_182, eu_182⟩ : ∃ z : Lop, z = fMove ((lNow u_135), (lLoad u_135), (lSeed u_135), (lBad u_135), (lGood u_135), (lPres u_135), (lRecs u_135), u_162, u_177) v := ⟨_, rfl⟩
    have hM_182 : Cv Γ l yX1_moveOn wsX1_moveOn rm_X1_moveOn [.ref (a b), .ref (a2 b2)] (lopW Γ a b ((lNow u_135), (lLoad u_135), (lSeed u_135), (lBad u_135), (lGood u_135), (lPres u_135), (lRecs u_135), u_162, u_177) ++ setW Γ a2 b2 v) (lopW Γ a b u_182 ++ setW Γ a2 b2 v) := by rw [eu_182]; exact c_X1_moveOn Γ l a b a2 b2 ((lNow u_135), (lLoad u_135), (lSeed u_135), (lBad u_135), (lGood u_135), (lPres u_135), (lRecs u_135), u_162, u_177) v
    refine ca_Vva hh hl.1 hM_182 (cwV 1 hts gX1_tick_X1_moveOn rfl rfl rfl (by decide +kernel) ⟨(Nat.le_of_ble_eq_true rfl), (Nat.le_of_ble_eq_true rfl)⟩) (As := [.ref (a2 b2)]) (rest := []) rfl dX1_tick_182 rfl (Nat.le_of_ble_eq_true rfl) hP hD hS (q0 := 0) (ci := 1) rfl rfl rfl (wf := lopW Γ a b u_182 ++ setW Γ a2 b2 v) rfl ⟨Nat.zero_le _, Nat.zero_le _⟩ (fun H locs hP hD hS => ?_)
    exact re_v hQ ha hx hb hr hlk hAe hP hS dX1_tick_185 (by simp only [fTick, fTick1, fTick4, lSetP, ← er_26, ← er_30, ← er_50, ← er_95, ← e9, ← eu_125, ← eu_131, ← eu_135, ← eu_162, ← eu_177, ← eu_182])
  refine lv_iload hx hb dX1_tick_100 (lv_at hl 0 rfl) ?_
  refine va_mabs hx hb (hml.trans hl.1.symm) hown (hts (.methodLink RX1 101 Lib.Math.abs.name) (List.mem_of_getElem? (i := 2) rfl)) (hts (.static Lib.Math.abs.name) (List.mem_of_getElem? (i := 3) rfl)) (hts (.initialized "java/lang/Math") (List.mem_of_getElem? (i := 4) rfl)) (hts (.code Lib.Math.abs.name Lib.Math.abs.code 1 (some .int)) (List.mem_of_getElem? (i := 5) rfl)) (Nat.le_of_ble_eq_true rfl) (Nat.le_of_ble_eq_true rfl) (Nat.le_of_ble_eq_true rfl) (Nat.le_of_ble_eq_true rfl) dX1_tick_102 ?_
  refine W.eq (g2 := F0 m 105 ls [.int (kAbs (r_30 - r_50)), .ref (a b)]) rfl ?_
  refine lv_aload_n hx hb dX1_tick_105 rfl (lv_at hl 3 rfl) ?_
  refine lv_bipush (v := 12) hx hb dX1_tick_106 (by decide) ?_
  refine ca_Vi hh hl.1 (c_X3_get Γ l a2 b2 v 12) (cwV 1 hts gX1_tick_X3_get rfl rfl rfl (by decide +kernel) ⟨(Nat.le_of_ble_eq_true rfl), (Nat.le_of_ble_eq_true rfl)⟩) (As := [.int 12]) (rest := [.int (kAbs (r_30 - r_50)), .ref (a b)]) rfl dX1_tick_108 rfl (Nat.le_of_ble_eq_true rfl) hP hD hS [9, 10] rfl rfl (q0 := 9) (ci := 3) rfl rfl rfl 2 rfl rfl (wf := lopW Γ a b ((lNow σ), (lLoad σ), (lSeed σ), (lBad σ), (lGood σ), (upd (upd (upd (lPres σ) 1 r_30) 4 r_50) 5 r_95), (lRecs σ), (lSec σ), (lWat σ)) ++ setW Γ a2 b2 v) rfl rfl ⟨Nat.zero_le _, Nat.zero_le _⟩ (fun H locs hP hD hS => ?_)
  refine lv_icmp_le (tgt := 118) hx hb dX1_tick_111 (by decide) (fun c_111 => ?_) (fun c_111 => ?_)
  · -- yes
    refine lv_iconst (v := 0) hx hb dX1_tick_118 (by decide) ?_
    exact hJ_119 _ (by subst er_95; subst er_50; subst er_30; subst er_26; simp [fLoud, c_111]) _ _ _ hP hD hS (lv_sub hl [2, 3, 4, 1, 0] rfl)
  · -- no
    refine lv_iconst (v := 1) hx hb dX1_tick_114 (by decide) ?_
    refine lv_goto (tgt := 119) hx hb dX1_tick_115 (by decide) ?_
    exact hJ_119 _ (by subst er_95; subst er_50; subst er_30; subst er_26; simp [fLoud, c_111]) _ _ _ hP hD hS (lv_sub hl [2, 3, 4, 1, 0] rfl)
