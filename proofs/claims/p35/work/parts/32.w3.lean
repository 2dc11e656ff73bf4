def rm_X1_changeSetpoint : Room := { frames := 1, cells := 0, slots := 0, locals := 21 }
theorem iX1_changeSetpoint_1 : ∀ w ∈ u_ws RX1 TX1 9, w ∈ wsX1_changeSetpoint := fun w h => (List.mem_cons_of_mem _ (List.mem_append_left _ (List.mem_append_right _ h)))
set_option maxHeartbeats 1000000 in
set_option maxRecDepth 100000 in
theorem c_X1_changeSetpoint (Γ : gT) (l : Launch) (a : Nat → Nat) (b : Nat) (σ : Lop) (v : Int32)  : Ci Γ l yX1_changeSetpoint wsX1_changeSetpoint rm_X1_changeSetpoint [.ref (a b), .int v] (lopW Γ a b σ) (((lPres σ) 0)) (lopW Γ a b (fSetR σ v)) := by
  refine Ci.of (cc := cX1_changeSetpoint) (own := RX1) (nL := 3) (ret := (some .int)) (by decide +kernel) rfl rfl (Nat.le_of_ble_eq_true rfl) ?_
  intro p e s m args below meth c A Q H locs ls ha hAe hQ hx hb hml hr hts hown hlk hP hK hD hS hA hG hl
  have hh : Hd Γ p s m args c cX1_changeSetpoint RX1 3 wsX1_changeSetpoint A := ⟨⟨hx, hb, hml, hown, hts⟩, hK, hA, hG⟩
  have hl : lv_has ls 3 [(0, .ref (a b)), (1, .int v)] := hl
  refine lv_aload_n hx hb dX1_changeSetpoint_0 rfl (lv_at hl 0 rfl) ?_
  refine va_get (D := gD Γ) (cl := vwCl) (tys := gTy Γ) (ci := 1) (v := .ref (a (b + 1))) (C := RX1) (T := TX1) (N := 9) hx hb hts iX1_changeSetpoint_1 hown hK hP 0 rfl rfl 5 (Nat.le_of_ble_eq_true rfl) (hts (.fieldLink RX1 27 "DeadTimeLoop$Loop" "present" "[I") (List.mem_of_getElem? (i := 1) rfl)) (fun _ h9 => h9) rfl dX1_changeSetpoint_1 ?_
  refine lv_iconst (v := 0) hx hb dX1_changeSetpoint_4 (by decide) ?_
  refine ka_iald (D := gD Γ) (cl := vwCl) (tys := gTy Γ) hx hb hK hP 1 0 rfl rfl 0 (by decide) (by decide) (by decide) (v := ((lPres σ) 0)) rfl dX1_changeSetpoint_5 ?_
  refine lv_istore_n (lv' := [(2, .int ((lPres σ) 0)), (0, .ref (a b)), (1, .int v)]) hx hb dX1_changeSetpoint_6 rfl hl (by decide) rfl (fun ls hl => ?_)
  refine lv_aload_n hx hb dX1_changeSetpoint_7 rfl (lv_at hl 1 rfl) ?_
  refine va_get (D := gD Γ) (cl := vwCl) (tys := gTy Γ) (ci := 1) (v := .ref (a (b + 1))) (C := RX1) (T := TX1) (N := 9) hx hb hts iX1_changeSetpoint_1 hown hK hP 0 rfl rfl 5 (Nat.le_of_ble_eq_true rfl) (hts (.fieldLink RX1 27 "DeadTimeLoop$Loop" "present" "[I") (List.mem_of_getElem? (i := 1) rfl)) (fun _ h9 => h9) rfl dX1_changeSetpoint_8 ?_
  refine lv_iconst (v := 0) hx hb dX1_changeSetpoint_11 (by decide) ?_
  refine lv_iload_n hx hb dX1_changeSetpoint_12 rfl (lv_at hl 2 rfl) ?_
  refine ka_iast (D := gD Γ) (cl := vwCl) (tys := gTy Γ) hx hb hK hP hD hS 1 0 rfl rfl 0 (by decide) (by decide) (by decide) (wf := lopW Γ a b ((lNow σ), (lLoad σ), (lSeed σ), (lBad σ), (lGood σ), (upd (lPres σ) 0 v), (lRecs σ), (lSec σ), (lWat σ))) rfl dX1_changeSetpoint_13 (fun H locs hP hD hS => ?_)
  refine lv_aload_n hx hb dX1_changeSetpoint_14 rfl (lv_at hl 1 rfl) ?_
  refine va_get (D := gD Γ) (cl := vwCl) (tys := gTy Γ) (ci := 1) (v := .ref (a (b + 3))) (C := RX1) (T := TX1) (N := 9) hx hb hts iX1_changeSetpoint_1 hown hK hP 0 rfl rfl 7 (Nat.le_of_ble_eq_true rfl) (hts (.fieldLink RX1 37 "DeadTimeLoop$Loop" "section" "LDeadTimeLoop$Section;") (List.mem_of_getElem? (i := 2) rfl)) (fun _ h9 => h9) rfl dX1_changeSetpoint_15 ?_
  refine lv_iload_n hx hb dX1_changeSetpoint_18 rfl (lv_at hl 2 rfl) ?_
  refine lv_iload_n hx hb dX1_changeSetpoint_19 rfl (lv_at hl 0 rfl) ?_
  refine lv_icmp_lt (tgt := 27) hx hb dX1_changeSetpoint_20 (by decide) (fun c_20 => ?_) (fun c_20 => ?_)
  · -- yes
    refine lv_iconst (v := 0) hx hb dX1_changeSetpoint_27 (by decide) ?_
    obtain ⟨u_28, eu_28⟩ : ∃ z : Sec, z = fSecBegin 0 := ⟨_, rfl⟩
    have hM_28 : Cv Γ l yX2_begin wsX2_begin rm_X2_begin [.ref (a (b + 3)), .int 0] (secW Γ a (b + 3) (lSec σ)) (secW Γ a (b + 3) u_28) := by rw [eu_28]; exact c_X2_begin Γ l a (b + 3) (lSec σ) 0 (by decide)
    refine ca_Vv hh hl.1 hM_28 (cwV 1 hts gX1_changeSetpoint_X2_begin rfl rfl rfl (by decide +kernel) ⟨(Nat.le_of_ble_eq_true rfl), (Nat.le_of_ble_eq_true rfl)⟩) (As := [.int 0]) (rest := []) rfl dX1_changeSetpoint_28 rfl (Nat.le_of_ble_eq_true rfl) hP hD hS [3] rfl rfl (q0 := 3) (ci := 2) rfl rfl rfl 1 rfl rfl (wf := lopW Γ a b ((lNow σ), (lLoad σ), (lSeed σ), (lBad σ), (lGood σ), (upd (lPres σ) 0 v), (lRecs σ), u_28, (lWat σ))) rfl rfl ⟨Nat.zero_le _, Nat.zero_le _⟩ (fun H locs hP hD hS => ?_)
    refine lv_iload_n hx hb dX1_changeSetpoint_31 rfl (lv_at hl 0 rfl) ?_
    exact re_i hQ ha hx hb hr hlk hAe hP hS dX1_changeSetpoint_32 (by subst eu_28; first | rfl | simp [fSetR, c_20]) (by subst eu_28; first | rfl | simp [fSetR, c_20])
  · -- no
    refine lv_iconst (v := 1) hx hb dX1_changeSetpoint_23 (by decide) ?_
    refine lv_goto (tgt := 28) hx hb dX1_changeSetpoint_24 (by decide) ?_
    obtain ⟨u_28b, eu_28b⟩ : ∃ z : Sec, z = fSecBegin 1 := ⟨_, rfl⟩
    have hM_28b : Cv Γ l yX2_begin wsX2_begin rm_X2_begin [.ref (a (b + 3)), .int 1] (secW Γ a (b + 3) (lSec σ)) (secW Γ a (b + 3) u_28b) := by rw [eu_28b]; exact c_X2_begin Γ l a (b + 3) (lSec σ) 1 (by decide)
    refine ca_Vv hh hl.1 hM_28b (cwV 1 hts gX1_changeSetpoint_X2_begin rfl rfl rfl (by decide +kernel) ⟨(Nat.le_of_ble_eq_true rfl), (Nat.le_of_ble_eq_true rfl)⟩) (As := [.int 1]) (rest := []) rfl dX1_changeSetpoint_28 rfl (Nat.le_of_ble_eq_true rfl) hP hD hS [3] rfl rfl (q0 := 3) (ci := 2) rfl rfl rfl 1 rfl rfl (wf := lopW Γ a b ((lNow σ), (lLoad σ), (lSeed σ), (lBad σ), (lGood σ), (upd (lPres σ) 0 v), (lRecs σ), u_28b, (lWat σ))) rfl rfl ⟨Nat.zero_le _, Nat.zero_le _⟩ (fun H locs hP hD hS => ?_)
    refine lv_iload_n hx hb dX1_changeSetpoint_31 rfl (lv_at hl 0 rfl) ?_
    exact re_i hQ ha hx hb hr hlk hAe hP hS dX1_changeSetpoint_32 (by subst eu_28b; first | rfl | simp [fSetR, c_20]) (by subst eu_28b; first | rfl | simp [fSetR, c_20])
def rm_X1_recordOf : Room := { frames := 1, cells := 0, slots := 0, locals := 22 }
theorem iX1_recordOf_1 : ∀ w ∈ u_ws RX1 TX1 9, w ∈ wsX1_recordOf := fun w h => (List.mem_cons_of_mem _ (List.mem_append_right _ h))
set_option maxHeartbeats 1000000 in
set_option maxRecDepth 100000 in
theorem c_X1_recordOf (Γ : gT) (l : Launch) (a : Nat → Nat) (b : Nat) (σ : Lop) (sg : Int32) (tk : Int32)  : Ci Γ l yX1_recordOf wsX1_recordOf rm_X1_recordOf [.ref (a b), .int sg, .int tk] (lopW Γ a b σ) (fRec (lNow σ) (lRecs σ) sg tk) (lopW Γ a b σ) := by
  refine Ci.of (cc := cX1_recordOf) (own := RX1) (nL := 3) (ret := (some .int)) (by decide +kernel) rfl rfl (Nat.le_of_ble_eq_true rfl) ?_
  intro p e s m args below meth c A Q H locs ls ha hAe hQ hx hb hml hr hts hown hlk hP hK hD hS hA hG hl
  have hh : Hd Γ p s m args c cX1_recordOf RX1 3 wsX1_recordOf A := ⟨⟨hx, hb, hml, hown, hts⟩, hK, hA, hG⟩
  have hl : lv_has ls 3 [(0, .ref (a b)), (1, .int sg), (2, .int tk)] := hl
  refine lv_iload_n hx hb dX1_recordOf_0 rfl (lv_at hl 1 rfl) ?_
  refine ca_Ni hh hl.1 (c_X6_isSignal Γ l sg) ⟨va_cnB (host := RX6) 1 hts gX1_recordOf_X6_isSignal_n68 rfl rfl rfl hG.1.2.2.2.2.2.1 (hts (.initialized RX6) (List.mem_of_getElem? (i := 4) rfl)) (by decide +kernel) ⟨(Nat.le_of_ble_eq_true rfl), (Nat.le_of_ble_eq_true rfl)⟩, (hts (.static yX6_isSignal) (List.mem_of_getElem? (i := 3) rfl)), trivial⟩ (As := [.int sg]) (rest := []) rfl dX1_recordOf_1 rfl (Nat.le_of_ble_eq_true rfl) hP hD hS ⟨Nat.zero_le _, Nat.zero_le _⟩ (fun H locs hP hS => ?_)
  refine lv_if_eq (tgt := 30) hx hb dX1_recordOf_4 (by decide) (fun c_4 => ?_) (fun c_4 => ?_)
  · -- yes
    refine lv_iconst (v := 0) hx hb dX1_recordOf_30 (by decide) ?_
    exact re_i hQ ha hx hb hr hlk hAe hP hS dX1_recordOf_31 (by skip; first | rfl | simp [fRec, c_4]) (by skip; first | rfl | simp [fRec, c_4])
  · -- no
    refine lv_iload_n hx hb dX1_recordOf_7 rfl (lv_at hl 2 rfl) ?_
    refine lv_if_lt (tgt := 30) hx hb dX1_recordOf_8 (by decide) (fun c_8 => ?_) (fun c_8 => ?_)
    · -- yes
      refine lv_iconst (v := 0) hx hb dX1_recordOf_30 (by decide) ?_
      exact re_i hQ ha hx hb hr hlk hAe hP hS dX1_recordOf_31 (by skip; first | rfl | simp [fRec, c_4, c_8]) (by skip; first | rfl | simp [fRec, c_4, c_8])
    · -- no
      refine lv_iload_n hx hb dX1_recordOf_11 rfl (lv_at hl 2 rfl) ?_
      refine lv_aload_n hx hb dX1_recordOf_12 rfl (lv_at hl 0 rfl) ?_
      refine va_get (D := gD Γ) (cl := vwCl) (tys := gTy Γ) (ci := 1) (v := .int (lNow σ)) (C := RX1) (T := TX1) (N := 9) hx hb hts iX1_recordOf_1 hown hK hP 0 rfl rfl 0 (Nat.le_of_ble_eq_true rfl) (hts (.fieldLink RX1 9 "DeadTimeLoop$Loop" "now" "I") (List.mem_of_getElem? (i := 1) rfl)) (fun _ h9 => h9) rfl dX1_recordOf_13 ?_
      refine lv_icmp_ge (tgt := 30) hx hb dX1_recordOf_16 (by decide) (fun c_16 => ?_) (fun c_16 => ?_)
      · -- yes
        refine lv_iconst (v := 0) hx hb dX1_recordOf_30 (by decide) ?_
        exact re_i hQ ha hx hb hr hlk hAe hP hS dX1_recordOf_31 (by skip; first | rfl | simp [fRec, c_4, c_8, c_16]) (by skip; first | rfl | simp [fRec, c_4, c_8, c_16])
      · -- no
        refine lv_iload_n hx hb dX1_recordOf_19 rfl (lv_at hl 2 rfl) ?_
        refine lv_aload_n hx hb dX1_recordOf_20 rfl (lv_at hl 0 rfl) ?_
        refine va_get (D := gD Γ) (cl := vwCl) (tys := gTy Γ) (ci := 1) (v := .int (lNow σ)) (C := RX1) (T := TX1) (N := 9) hx hb hts iX1_recordOf_1 hown hK hP 0 rfl rfl 0 (Nat.le_of_ble_eq_true rfl) (hts (.fieldLink RX1 9 "DeadTimeLoop$Loop" "now" "I") (List.mem_of_getElem? (i := 1) rfl)) (fun _ h9 => h9) rfl dX1_recordOf_21 ?_
        refine lv_bipush (v := 64) hx hb dX1_recordOf_24 (by decide) ?_
        refine lv_isub hx hb dX1_recordOf_26 ?_
        refine lv_icmp_ge (tgt := 32) hx hb dX1_recordOf_27 (by decide) (fun c_27 => ?_) (fun c_27 => ?_)
        · -- yes
          refine lv_aload_n hx hb dX1_recordOf_32 rfl (lv_at hl 0 rfl) ?_
          refine va_get (D := gD Γ) (cl := vwCl) (tys := gTy Γ) (ci := 1) (v := .ref (a (b + 2))) (C := RX1) (T := TX1) (N := 9) hx hb hts iX1_recordOf_1 hown hK hP 0 rfl rfl 6 (Nat.le_of_ble_eq_true rfl) (hts (.fieldLink RX1 31 "DeadTimeLoop$Loop" "records" "[I") (List.mem_of_getElem? (i := 2) rfl)) (fun _ h9 => h9) rfl dX1_recordOf_33 ?_
          refine lv_iload_n hx hb dX1_recordOf_36 rfl (lv_at hl 1 rfl) ?_
          refine lv_bipush (v := 64) hx hb dX1_recordOf_37 (by decide) ?_
          refine lv_imul hx hb dX1_recordOf_39 ?_
          refine lv_iload_n hx hb dX1_recordOf_40 rfl (lv_at hl 2 rfl) ?_
          refine lv_bipush (v := 64) hx hb dX1_recordOf_41 (by decide) ?_
          refine ca_Si hh hl.1 (c_J9_floorMod_7cf53 Γ l tk 64 (by first | assumption | omega | decide)) (va_cwS 2 hts gX1_recordOf_J9_floorMod_7cf53 rfl rfl rfl (by decide +kernel) ⟨(Nat.le_of_ble_eq_true rfl), (Nat.le_of_ble_eq_true rfl)⟩) (As := [.int tk, .int 64]) (rest := [.int (sg * 64), .ref (a (b + 2))]) rfl dX1_recordOf_43 rfl (Nat.le_of_ble_eq_true rfl) hP hD hS ⟨Nat.zero_le _, Nat.zero_le _⟩ (fun H locs hP hS => ?_)
          refine lv_iadd hx hb dX1_recordOf_46 ?_
          refine ka_iald (D := gD Γ) (cl := vwCl) (tys := gTy Γ) hx hb hK hP 2 0 rfl rfl (((sg * 64) + (kFmod tk 64)).toNatClampNeg) (nI_of_in (rec_in c_4 c_8) (by decide)) (in_lt (rec_in c_4 c_8)) (by decide) (v := ((lRecs σ) (((sg * 64) + (kFmod tk 64)).toNatClampNeg))) rfl dX1_recordOf_47 ?_
          exact re_i hQ ha hx hb hr hlk hAe hP hS dX1_recordOf_48 (by skip; first | rfl | simp [fRec, c_4, c_8, c_16, c_27]) (by skip; first | rfl | simp [fRec, c_4, c_8, c_16, c_27])
        · -- no
          refine lv_iconst (v := 0) hx hb dX1_recordOf_30 (by decide) ?_
          exact re_i hQ ha hx hb hr hlk hAe hP hS dX1_recordOf_31 (by skip; first | rfl | simp [fRec, c_4, c_8, c_16, c_27]) (by skip; first | rfl | simp [fRec, c_4, c_8, c_16, c_27])
def rm_X1_copy : Room := { frames := 2, cells := 0, slots := 0, locals := 49 }
theorem iX1_copy_1 : ∀ w ∈ u_ws RX1 TX1 9, w ∈ wsX1_copy := fun w h => (List.mem_cons_of_mem _ (List.mem_append_left _ (List.mem_append_left _ (List.mem_append_right _ h))))
set_option maxHeartbeats 1000000 in
set_option maxRecDepth 100000 in
theorem c_X1_copy (Γ : gT) (l : Launch) (a : Nat → Nat) (b : Nat) (a2 : Nat → Nat) (b2 : Nat) (σ : Lop) (τ : Lop) (hup : sUp (lSec τ) = 0 ∨ sUp (lSec τ) = 1) : Cv Γ l yX1_copy wsX1_copy rm_X1_copy [.ref (a b), .ref (a2 b2)] (lopW Γ a b σ ++ lopW Γ a2 b2 τ) (lopW Γ a b (fLoopCopy σ τ) ++ lopW Γ a2 b2 τ) := by
  refine Cv.of (cc := cX1_copy) (own := RX1) (nL := 2) (ret := none) (by decide +kernel) rfl rfl (Nat.le_of_ble_eq_true rfl) ?_
  intro p e s m args below meth c A Q H locs ls ha hAe hQ hx hb hml hr hts hown hlk hP hK hD hS hA hG hl
  have hh : Hd Γ p s m args c cX1_copy RX1 2 wsX1_copy A := ⟨⟨hx, hb, hml, hown, hts⟩, hK, hA, hG⟩
  have hl : lv_has ls 2 [(0, .ref (a b)), (1, .ref (a2 b2))] := hl
  refine lv_aload_n hx hb dX1_copy_0 rfl (lv_at hl 0 rfl) ?_
  refine lv_aload_n hx hb dX1_copy_1 rfl (lv_at hl 1 rfl) ?_
  refine va_get (D := gD Γ) (cl := vwCl) (tys := gTy Γ) (ci := 1) (v := .int (lNow τ)) (C := RX1) (T := TX1) (N := 9) hx hb hts iX1_copy_1 hown hK hP 9 rfl rfl 0 (Nat.le_of_ble_eq_true rfl) (hts (.fieldLink RX1 9 "DeadTimeLoop$Loop" "now" "I") (List.mem_of_getElem? (i := 1) rfl)) (fun _ h9 => h9) rfl dX1_copy_2 ?_
  refine va_put (D := gD Γ) (cl := vwCl) (tys := gTy Γ) (ci := 1) (v := .int (lNow τ)) (ty := tyX1 0) (C := RX1) (T := TX1) (N := 9) hx hb hts iX1_copy_1 tyX1 tyX1_ok nmX1 hown hK hP hD hS 0 rfl rfl 0 (Nat.le_of_ble_eq_true rfl) (hts (.fieldLink RX1 9 "DeadTimeLoop$Loop" "now" "I") (List.mem_of_getElem? (i := 1) rfl)) (fun _ h9 => h9) rfl (tyX1_ok 0 (Nat.le_of_ble_eq_true rfl)) rfl rfl (Nat.le_of_ble_eq_true rfl) dX1_copy_5 (fun H locs hP hD hS => ?_)
  have hP : va_P (gD Γ) vwCl (lopW Γ a b ((lNow τ), (lLoad σ), (lSeed σ), (lBad σ), (lGood σ), (lPres σ), (lRecs σ), (lSec σ), (lWat σ)) ++ lopW Γ a2 b2 τ) H := hP
  have hD : va_D A (lopW Γ a b ((lNow τ), (lLoad σ), (lSeed σ), (lBad σ), (lGood σ), (lPres σ), (lRecs σ), (lSec σ), (lWat σ)) ++ lopW Γ a2 b2 τ) := hD
  refine lv_aload_n hx hb dX1_copy_8 rfl (lv_at hl 0 rfl) ?_
  refine lv_aload_n hx hb dX1_copy_9 rfl (lv_at hl 1 rfl) ?_
  refine va_get (D := gD Γ) (cl := vwCl) (tys := gTy Γ) (ci := 1) (v := .int (lLoad τ)) (C := RX1) (T := TX1) (N := 9) hx hb hts iX1_copy_1 hown hK hP 9 rfl rfl 1 (Nat.le_of_ble_eq_true rfl) (hts (.fieldLink RX1 15 "DeadTimeLoop$Loop" "load" "I") (List.mem_of_getElem? (i := 2) rfl)) (fun _ h9 => h9) rfl dX1_copy_10 ?_
  refine va_put (D := gD Γ) (cl := vwCl) (tys := gTy Γ) (ci := 1) (v := .int (lLoad τ)) (ty := tyX1 1) (C := RX1) (T := TX1) (N := 9) hx hb hts iX1_copy_1 tyX1 tyX1_ok nmX1 hown hK hP hD hS 0 rfl rfl 1 (Nat.le_of_ble_eq_true rfl) (hts (.fieldLink RX1 15 "DeadTimeLoop$Loop" "load" "I") (List.mem_of_getElem? (i := 2) rfl)) (fun _ h9 => h9) rfl (tyX1_ok 1 (Nat.le_of_ble_eq_true rfl)) rfl rfl (Nat.le_of_ble_eq_true rfl) dX1_copy_13 (fun H locs hP hD hS => ?_)
  have hP : va_P (gD Γ) vwCl (lopW Γ a b ((lNow τ), (lLoad τ), (lSeed σ), (lBad σ), (lGood σ), (lPres σ), (lRecs σ), (lSec σ), (lWat σ)) ++ lopW Γ a2 b2 τ) H := hP
  have hD : va_D A (lopW Γ a b ((lNow τ), (lLoad τ), (lSeed σ), (lBad σ), (lGood σ), (lPres σ), (lRecs σ), (lSec σ), (lWat σ)) ++ lopW Γ a2 b2 τ) := hD
  refine lv_aload_n hx hb dX1_copy_16 rfl (lv_at hl 0 rfl) ?_
  refine lv_aload_n hx hb dX1_copy_17 rfl (lv_at hl 1 rfl) ?_
  refine va_get (D := gD Γ) (cl := vwCl) (tys := gTy Γ) (ci := 1) (v := .int (lSeed τ)) (C := RX1) (T := TX1) (N := 9) hx hb hts iX1_copy_1 hown hK hP 9 rfl rfl 2 (Nat.le_of_ble_eq_true rfl) (hts (.fieldLink RX1 18 "DeadTimeLoop$Loop" "seed" "I") (List.mem_of_getElem? (i := 3) rfl)) (fun _ h9 => h9) rfl dX1_copy_18 ?_
  refine va_put (D := gD Γ) (cl := vwCl) (tys := gTy Γ) (ci := 1) (v := .int (lSeed τ)) (ty := tyX1 2) (C := RX1) (T := TX1) (N := 9) hx hb hts iX1_copy_1 tyX1 tyX1_ok nmX1 hown hK hP hD hS 0 rfl rfl 2 (Nat.le_of_ble_eq_true rfl) (hts (.fieldLink RX1 18 "DeadTimeLoop$Loop" "seed" "I") (List.mem_of_getElem? (i := 3) rfl)) (fun _ h9 => h9) rfl (tyX1_ok 2 (Nat.le_of_ble_eq_true rfl)) rfl rfl (Nat.le_of_ble_eq_true rfl) dX1_copy_21 (fun H locs hP hD hS => ?_)
  have hP : va_P (gD Γ) vwCl (lopW Γ a b ((lNow τ), (lLoad τ), (lSeed τ), (lBad σ), (lGood σ), (lPres σ), (lRecs σ), (lSec σ), (lWat σ)) ++ lopW Γ a2 b2 τ) H := hP
  have hD : va_D A (lopW Γ a b ((lNow τ), (lLoad τ), (lSeed τ), (lBad σ), (lGood σ), (lPres σ), (lRecs σ), (lSec σ), (lWat σ)) ++ lopW Γ a2 b2 τ) := hD
  refine lv_aload_n hx hb dX1_copy_24 rfl (lv_at hl 0 rfl) ?_
  refine lv_aload_n hx hb dX1_copy_25 rfl (lv_at hl 1 rfl) ?_
  refine va_get (D := gD Γ) (cl := vwCl) (tys := gTy Γ) (ci := 1) (v := .int (lBad τ)) (C := RX1) (T := TX1) (N := 9) hx hb hts iX1_copy_1 hown hK hP 9 rfl rfl 3 (Nat.le_of_ble_eq_true rfl) (hts (.fieldLink RX1 21 "DeadTimeLoop$Loop" "badTicks" "I") (List.mem_of_getElem? (i := 4) rfl)) (fun _ h9 => h9) rfl dX1_copy_26 ?_
  refine va_put (D := gD Γ) (cl := vwCl) (tys := gTy Γ) (ci := 1) (v := .int (lBad τ)) (ty := tyX1 3) (C := RX1) (T := TX1) (N := 9) hx hb hts iX1_copy_1 tyX1 tyX1_ok nmX1 hown hK hP hD hS 0 rfl rfl 3 (Nat.le_of_ble_eq_true rfl) (hts (.fieldLink RX1 21 "DeadTimeLoop$Loop" "badTicks" "I") (List.mem_of_getElem? (i := 4) rfl)) (fun _ h9 => h9) rfl (tyX1_ok 3 (Nat.le_of_ble_eq_true rfl)) rfl rfl (Nat.le_of_ble_eq_true rfl) dX1_copy_29 (fun H locs hP hD hS => ?_)
  have hP : va_P (gD Γ) vwCl (lopW Γ a b ((lNow τ), (lLoad τ), (lSeed τ), (lBad τ), (lGood σ), (lPres σ), (lRecs σ), (lSec σ), (lWat σ)) ++ lopW Γ a2 b2 τ) H := hP
  have hD : va_D A (lopW Γ a b ((lNow τ), (lLoad τ), (lSeed τ), (lBad τ), (lGood σ), (lPres σ), (lRecs σ), (lSec σ), (lWat σ)) ++ lopW Γ a2 b2 τ) := hD
  refine lv_aload_n hx hb dX1_copy_32 rfl (lv_at hl 0 rfl) ?_
  refine lv_aload_n hx hb dX1_copy_33 rfl (lv_at hl 1 rfl) ?_
  refine va_get (D := gD Γ) (cl := vwCl) (tys := gTy Γ) (ci := 1) (v := .int (lGood τ)) (C := RX1) (T := TX1) (N := 9) hx hb hts iX1_copy_1 hown hK hP 9 rfl rfl 4 (Nat.le_of_ble_eq_true rfl) (hts (.fieldLink RX1 24 "DeadTimeLoop$Loop" "goodTicks" "I") (List.mem_of_getElem? (i := 5) rfl)) (fun _ h9 => h9) rfl dX1_copy_34 ?_
  refine va_put (D := gD Γ) (cl := vwCl) (tys := gTy Γ) (ci := 1) (v := .int (lGood τ)) (ty := tyX1 4) (C := RX1) (T := TX1) (N := 9) hx hb hts iX1_copy_1 tyX1 tyX1_ok nmX1 hown hK hP hD hS 0 rfl rfl 4 (Nat.le_of_ble_eq_true rfl) (hts (.fieldLink RX1 24 "DeadTimeLoop$Loop" "goodTicks" "I") (List.mem_of_getElem? (i := 5) rfl)) (fun _ h9 => h9) rfl (tyX1_ok 4 (Nat.le_of_ble_eq_true rfl)) rfl rfl (Nat.le_of_ble_eq_true rfl) dX1_copy_37 (fun H locs hP hD hS => ?_)
  have hP : va_P (gD Γ) vwCl (lopW Γ a b ((lNow τ), (lLoad τ), (lSeed τ), (lBad τ), (lGood τ), (lPres σ), (lRecs σ), (lSec σ), (lWat σ)) ++ lopW Γ a2 b2 τ) H := hP
  have hD : va_D A (lopW Γ a b ((lNow τ), (lLoad τ), (lSeed τ), (lBad τ), (lGood τ), (lPres σ), (lRecs σ), (lSec σ), (lWat σ)) ++ lopW Γ a2 b2 τ) := hD
  refine lv_aload_n hx hb dX1_copy_40 rfl (lv_at hl 1 rfl) ?_
  refine va_get (D := gD Γ) (cl := vwCl) (tys := gTy Γ) (ci := 1) (v := .ref (a2 (b2 + 1))) (C := RX1) (T := TX1) (N := 9) hx hb hts iX1_copy_1 hown hK hP 9 rfl rfl 5 (Nat.le_of_ble_eq_true rfl) (hts (.fieldLink RX1 27 "DeadTimeLoop$Loop" "present" "[I") (List.mem_of_getElem? (i := 6) rfl)) (fun _ h9 => h9) rfl dX1_copy_41 ?_
  refine lv_iconst (v := 0) hx hb dX1_copy_44 (by decide) ?_
  refine lv_aload_n hx hb dX1_copy_45 rfl (lv_at hl 0 rfl) ?_
  refine va_get (D := gD Γ) (cl := vwCl) (tys := gTy Γ) (ci := 1) (v := .ref (a (b + 1))) (C := RX1) (T := TX1) (N := 9) hx hb hts iX1_copy_1 hown hK hP 0 rfl rfl 5 (Nat.le_of_ble_eq_true rfl) (hts (.fieldLink RX1 27 "DeadTimeLoop$Loop" "present" "[I") (List.mem_of_getElem? (i := 6) rfl)) (fun _ h9 => h9) rfl dX1_copy_46 ?_
  refine lv_iconst (v := 0) hx hb dX1_copy_49 (by decide) ?_
  refine lv_bipush (v := 10) hx hb dX1_copy_50 (by decide) ?_
  refine va_copyi (D := gD Γ) (cl := vwCl) (tys := gTy Γ) (f := (lPres τ)) (g := (lPres σ)) hx hb (hml.trans hl.1.symm) hown (hts (.methodLink RX1 55 arraycopyName) (List.mem_of_getElem? (i := 7) rfl)) (hts (.native arraycopyName) (List.mem_of_getElem? (i := 8) rfl)) (hts (.static arraycopyName) (List.mem_of_getElem? (i := 9) rfl)) (hts (.initialized "java/lang/System") (List.mem_of_getElem? (i := 10) rfl)) hK hP hD hS 10 1 0 0 rfl rfl rfl rfl rfl (by decide) (by decide) (by decide) (by decide) (by decide) (fun i hi => rfl) (Nat.le_of_ble_eq_true rfl) (Nat.le_of_ble_eq_true rfl) dX1_copy_52 (fun H locs hP hD hS => ?_)
  have hP : va_P (gD Γ) vwCl (lopW Γ a b ((lNow τ), (lLoad τ), (lSeed τ), (lBad τ), (lGood τ), (va_cpy (lPres τ) (lPres σ) 0 0 10), (lRecs σ), (lSec σ), (lWat σ)) ++ lopW Γ a2 b2 τ) H := hP
  have hD : va_D A (lopW Γ a b ((lNow τ), (lLoad τ), (lSeed τ), (lBad τ), (lGood τ), (va_cpy (lPres τ) (lPres σ) 0 0 10), (lRecs σ), (lSec σ), (lWat σ)) ++ lopW Γ a2 b2 τ) := hD
  refine lv_aload_n hx hb dX1_copy_55 rfl (lv_at hl 1 rfl) ?_
  refine va_get (D := gD Γ) (cl := vwCl) (tys := gTy Γ) (ci := 1) (v := .ref (a2 (b2 + 2))) (C := RX1) (T := TX1) (N := 9) hx hb hts iX1_copy_1 hown hK hP 9 rfl rfl 6 (Nat.le_of_ble_eq_true rfl) (hts (.fieldLink RX1 31 "DeadTimeLoop$Loop" "records" "[I") (List.mem_of_getElem? (i := 11) rfl)) (fun _ h9 => h9) rfl dX1_copy_56 ?_
  refine lv_iconst (v := 0) hx hb dX1_copy_59 (by decide) ?_
  refine lv_aload_n hx hb dX1_copy_60 rfl (lv_at hl 0 rfl) ?_
  refine va_get (D := gD Γ) (cl := vwCl) (tys := gTy Γ) (ci := 1) (v := .ref (a (b + 2))) (C := RX1) (T := TX1) (N := 9) hx hb hts iX1_copy_1 hown hK hP 0 rfl rfl 6 (Nat.le_of_ble_eq_true rfl) (hts (.fieldLink RX1 31 "DeadTimeLoop$Loop" "records" "[I") (List.mem_of_getElem? (i := 11) rfl)) (fun _ h9 => h9) rfl dX1_copy_61 ?_
  refine lv_iconst (v := 0) hx hb dX1_copy_64 (by decide) ?_
  refine lv_sipush (v := 640) hx hb dX1_copy_65 (by decide) ?_
  refine va_copyi (D := gD Γ) (cl := vwCl) (tys := gTy Γ) (f := (lRecs τ)) (g := (lRecs σ)) hx hb (hml.trans hl.1.symm) hown (hts (.methodLink RX1 55 arraycopyName) (List.mem_of_getElem? (i := 7) rfl)) (hts (.native arraycopyName) (List.mem_of_getElem? (i := 8) rfl)) (hts (.static arraycopyName) (List.mem_of_getElem? (i := 9) rfl)) (hts (.initialized "java/lang/System") (List.mem_of_getElem? (i := 10) rfl)) hK hP hD hS 11 2 0 0 rfl rfl rfl rfl rfl (by decide) (by decide) (by decide) (by decide) (by decide) (fun i hi => rfl) (Nat.le_of_ble_eq_true rfl) (Nat.le_of_ble_eq_true rfl) dX1_copy_68 (fun H locs hP hD hS => ?_)
  have hP : va_P (gD Γ) vwCl (lopW Γ a b ((lNow τ), (lLoad τ), (lSeed τ), (lBad τ), (lGood τ), (va_cpy (lPres τ) (lPres σ) 0 0 10), (va_cpy (lRecs τ) (lRecs σ) 0 0 640), (lSec σ), (lWat σ)) ++ lopW Γ a2 b2 τ) H := hP
  have hD : va_D A (lopW Γ a b ((lNow τ), (lLoad τ), (lSeed τ), (lBad τ), (lGood τ), (va_cpy (lPres τ) (lPres σ) 0 0 10), (va_cpy (lRecs τ) (lRecs σ) 0 0 640), (lSec σ), (lWat σ)) ++ lopW Γ a2 b2 τ) := hD
  refine lv_aload_n hx hb dX1_copy_71 rfl (lv_at hl 0 rfl) ?_
  refine va_get (D := gD Γ) (cl := vwCl) (tys := gTy Γ) (ci := 1) (v := .ref (a (b + 3))) (C := RX1) (T := TX1) (N := 9) hx hb hts iX1_copy_1 hown hK hP 0 rfl rfl 7 (Nat.le_of_ble_eq_true rfl) (hts (.fieldLink RX1 37 "DeadTimeLoop$Loop" "section" "LDeadTimeLoop$Section;") (List.mem_of_getElem? (i := 12) rfl)) (fun _ h9 => h9) rfl dX1_copy_72 ?_
  refine lv_aload_n hx hb dX1_copy_75 rfl (lv_at hl 1 rfl) ?_
  refine va_get (D := gD Γ) (cl := vwCl) (tys := gTy Γ) (ci := 1) (v := .ref (a2 (b2 + 3))) (C := RX1) (T := TX1) (N := 9) hx hb hts iX1_copy_1 hown hK hP 9 rfl rfl 7 (Nat.le_of_ble_eq_true rfl) (hts (.fieldLink RX1 37 "DeadTimeLoop$Loop" "section" "LDeadTimeLoop$Section;") (List.mem_of_getElem? (i := 12) rfl)) (fun _ h9 => h9) rfl dX1_copy_76 ?_
  obtain ⟨u_79, eu_79⟩ : ∃ z : Sec, z = (lSec τ) := ⟨_, rfl⟩
  have hM_79 : Cv Γ l yX2_copy wsX2_copy rm_X2_copy [.ref (a (b + 3)), .ref (a2 (b2 + 3))] (secW Γ a (b + 3) (lSec σ) ++ secW Γ a2 (b2 + 3) (lSec τ)) (secW Γ a (b + 3) u_79 ++ secW Γ a2 (b2 + 3) (lSec τ)) := by rw [eu_79]; exact c_X2_copy Γ l a (b + 3) a2 (b2 + 3) (lSec σ) (lSec τ) (by first | assumption | omega | decide)
  refine ca_Vv hh hl.1 hM_79 (cwV 1 hts gX1_copy_X2_copy rfl rfl rfl (by decide +kernel) ⟨(Nat.le_of_ble_eq_true rfl), (Nat.le_of_ble_eq_true rfl)⟩) (As := [.ref (a2 (b2 + 3))]) (rest := []) rfl dX1_copy_79 rfl (Nat.le_of_ble_eq_true rfl) hP hD hS [3, 12] rfl rfl (q0 := 3) (ci := 2) rfl rfl rfl 2 rfl rfl (wf := lopW Γ a b ((lNow τ), (lLoad τ), (lSeed τ), (lBad τ), (lGood τ), (va_cpy (lPres τ) (lPres σ) 0 0 10), (va_cpy (lRecs τ) (lRecs σ) 0 0 640), u_79, (lWat σ)) ++ lopW Γ a2 b2 τ) rfl rfl ⟨Nat.zero_le _, Nat.zero_le _⟩ (fun H locs hP hD hS => ?_)
  refine lv_aload_n hx hb dX1_copy_82 rfl (lv_at hl 0 rfl) ?_
  refine va_get (D := gD Γ) (cl := vwCl) (tys := gTy Γ) (ci := 1) (v := .ref (a (b + 4))) (C := RX1) (T := TX1) (N := 9) hx hb hts iX1_copy_1 hown hK hP 0 rfl rfl 8 (Nat.le_of_ble_eq_true rfl) (hts (.fieldLink RX1 44 "DeadTimeLoop$Loop" "watches" "LDeadTimeLoop$Watches;") (List.mem_of_getElem? (i := 13) rfl)) (fun _ h9 => h9) rfl dX1_copy_83 ?_
  refine lv_aload_n hx hb dX1_copy_86 rfl (lv_at hl 1 rfl) ?_
  refine va_get (D := gD Γ) (cl := vwCl) (tys := gTy Γ) (ci := 1) (v := .ref (a2 (b2 + 4))) (C := RX1) (T := TX1) (N := 9) hx hb hts iX1_copy_1 hown hK hP 9 rfl rfl 8 (Nat.le_of_ble_eq_true rfl) (hts (.fieldLink RX1 44 "DeadTimeLoop$Loop" "watches" "LDeadTimeLoop$Watches;") (List.mem_of_getElem? (i := 13) rfl)) (fun _ h9 => h9) rfl dX1_copy_87 ?_
  obtain ⟨u_90, eu_90⟩ : ∃ z : Wat, z = (va_cpy (wSig (lWat τ)) (wSig (lWat σ)) 0 0 4, va_cpy (wLeast (lWat τ)) (wLeast (lWat σ)) 0 0 4, va_cpy (wGreat (lWat τ)) (wGreat (lWat σ)) 0 0 4, va_cpy (wGtick (lWat τ)) (wGtick (lWat σ)) 0 0 4, (wCnt (lWat τ))) := ⟨_, rfl⟩
  have hM_90 : Cv Γ l yX5_copy wsX5_copy rm_X5_copy [.ref (a (b + 4)), .ref (a2 (b2 + 4))] (watW Γ a (b + 4) (lWat σ) ++ watW Γ a2 (b2 + 4) (lWat τ)) (watW Γ a (b + 4) u_90 ++ watW Γ a2 (b2 + 4) (lWat τ)) := by rw [eu_90]; exact c_X5_copy Γ l a (b + 4) a2 (b2 + 4) (lWat σ) (lWat τ)
  refine ca_Vv hh hl.1 hM_90 (cwV 1 hts gX1_copy_X5_copy rfl rfl rfl (by decide +kernel) ⟨(Nat.le_of_ble_eq_true rfl), (Nat.le_of_ble_eq_true rfl)⟩) (As := [.ref (a2 (b2 + 4))]) (rest := []) rfl dX1_copy_90 rfl (Nat.le_of_ble_eq_true rfl) hP hD hS [4, 5, 6, 7, 8, 13, 14, 15, 16, 17] rfl rfl (q0 := 4) (ci := 5) rfl rfl rfl 10 rfl rfl (wf := lopW Γ a b ((lNow τ), (lLoad τ), (lSeed τ), (lBad τ), (lGood τ), (va_cpy (lPres τ) (lPres σ) 0 0 10), (va_cpy (lRecs τ) (lRecs σ) 0 0 640), u_79, u_90) ++ lopW Γ a2 b2 τ) rfl rfl ⟨Nat.zero_le _, Nat.zero_le _⟩ (fun H locs hP hD hS => ?_)
  exact re_v hQ ha hx hb hr hlk hAe hP hS dX1_copy_93 (by subst eu_90; subst eu_79; first | rfl | simp [])
def rm_X1_noise : Room := { frames := 0, cells := 0, slots := 0, locals := 0 }
theorem iX1_noise_1 : ∀ w ∈ u_ws RX1 TX1 9, w ∈ wsX1_noise := fun w h => (List.mem_cons_of_mem _ (List.mem_append_right _ h))
set_option maxHeartbeats 1000000 in
set_option maxRecDepth 100000 in
theorem c_X1_noise (Γ : gT) (l : Launch) (a : Nat → Nat) (b : Nat) (σ : Lop) (amp : Int32)  : Ci Γ l yX1_noise wsX1_noise rm_X1_noise [.ref (a b), .int amp] (lopW Γ a b σ) (fNoise (lNow σ) (lSeed σ) amp) (lopW Γ a b σ) := by
  refine Ci.of (cc := cX1_noise) (own := RX1) (nL := 6) (ret := (some .int)) (by decide +kernel) rfl rfl (Nat.le_of_ble_eq_true rfl) ?_
  intro p e s m args below meth c A Q H locs ls ha hAe hQ hx hb hml hr hts hown hlk hP hK hD hS hA hG hl
  have hh : Hd Γ p s m args c cX1_noise RX1 6 wsX1_noise A := ⟨⟨hx, hb, hml, hown, hts⟩, hK, hA, hG⟩
  have hl : lv_has ls 6 [(0, .ref (a b)), (1, .int amp)] := hl
  refine lv_ldc2 hx hb hown (hts (.constantLong RX1 126 (7919)) (List.mem_of_getElem? (i := 1) rfl)) dX1_noise_0 ?_
  refine lv_aload_n hx hb dX1_noise_3 rfl (lv_at hl 0 rfl) ?_
  refine va_get (D := gD Γ) (cl := vwCl) (tys := gTy Γ) (ci := 1) (v := .int (lNow σ)) (C := RX1) (T := TX1) (N := 9) hx hb hts iX1_noise_1 hown hK hP 0 rfl rfl 0 (Nat.le_of_ble_eq_true rfl) (hts (.fieldLink RX1 9 "DeadTimeLoop$Loop" "now" "I") (List.mem_of_getElem? (i := 2) rfl)) (fun _ h9 => h9) rfl dX1_noise_4 ?_
  refine lv_i2l (v := (lNow σ).toInt64) hx hb dX1_noise_7 rfl ?_
  refine lv_lmul hx hb dX1_noise_8 ?_
  refine lv_ldc2 hx hb hown (hts (.constantLong RX1 128 (6151)) (List.mem_of_getElem? (i := 3) rfl)) dX1_noise_9 ?_
  refine lv_aload_n hx hb dX1_noise_12 rfl (lv_at hl 0 rfl) ?_
  refine va_get (D := gD Γ) (cl := vwCl) (tys := gTy Γ) (ci := 1) (v := .int (lSeed σ)) (C := RX1) (T := TX1) (N := 9) hx hb hts iX1_noise_1 hown hK hP 0 rfl rfl 2 (Nat.le_of_ble_eq_true rfl) (hts (.fieldLink RX1 18 "DeadTimeLoop$Loop" "seed" "I") (List.mem_of_getElem? (i := 4) rfl)) (fun _ h9 => h9) rfl dX1_noise_13 ?_
  refine lv_i2l (v := (lSeed σ).toInt64) hx hb dX1_noise_16 rfl ?_
  refine lv_lmul hx hb dX1_noise_17 ?_
  refine lv_ladd hx hb dX1_noise_18 ?_
  refine lv_lconst (v := 1) hx hb dX1_noise_19 (by decide) ?_
  refine lv_ladd hx hb dX1_noise_20 ?_
  refine lv_topl (fun r_21 er_21 => ?_)
  have er_21 : r_21 = (((7919 * ((lNow σ).toInt64)) + (6151 * ((lSeed σ).toInt64))) + 1) := er_21
  refine lv_lstore_n (lv' := [(2, .long r_21), (0, .ref (a b)), (1, .int amp)]) hx hb dX1_noise_21 rfl hl (by decide) rfl (fun ls hl => ?_)
  refine lv_ldc2 hx hb hown (hts (.constantLong RX1 130 (2)) (List.mem_of_getElem? (i := 5) rfl)) dX1_noise_22 ?_
  refine lv_iload_n hx hb dX1_noise_25 rfl (lv_at hl 2 rfl) ?_
  refine lv_i2l (v := amp.toInt64) hx hb dX1_noise_26 rfl ?_
  refine lv_lmul hx hb dX1_noise_27 ?_
  refine lv_lconst (v := 1) hx hb dX1_noise_28 (by decide) ?_
  refine lv_ladd hx hb dX1_noise_29 ?_
  refine lv_lstore (lv' := [(4, .long ((2 * (amp.toInt64)) + 1)), (2, .long r_21), (0, .ref (a b)), (1, .int amp)]) hx hb dX1_noise_30 hl (by decide) rfl (fun ls hl => ?_)
  refine lv_lload hx hb dX1_noise_32 (lv_at hl 0 rfl) ?_
  refine lv_lconst (v := 1) hx hb dX1_noise_34 (by decide) ?_
  refine W.lcmp hx hb dX1_noise_35 ?_
  refine lv_if_ge (tgt := 43) hx hb dX1_noise_36 (by decide) (fun c_36 => ?_) (fun c_36 => ?_)
  · -- yes
    have c_36 := (lg_cmp_ge _ _).mp c_36
    refine lv_lload_n hx hb dX1_noise_43 rfl (lv_at hl 1 rfl) ?_
    refine lv_lload_n hx hb dX1_noise_44 rfl (lv_at hl 1 rfl) ?_
    refine lv_lmul hx hb dX1_noise_45 ?_
    refine lv_ldc2 hx hb hown (hts (.constantLong RX1 132 (65521)) (List.mem_of_getElem? (i := 6) rfl)) dX1_noise_46 ?_
    refine lv_lrem hx hb dX1_noise_49 (by decide) ?_
    refine lv_lload hx hb dX1_noise_50 (lv_at hl 0 rfl) ?_
    refine lv_lrem hx hb dX1_noise_52 (ne_of_1le c_36) ?_
    refine lv_iload_n hx hb dX1_noise_53 rfl (lv_at hl 3 rfl) ?_
    refine lv_i2l (v := amp.toInt64) hx hb dX1_noise_54 rfl ?_
    refine lv_lsub hx hb dX1_noise_55 ?_
    refine lv_l2i (v := ((lRem (lRem (r_21 * r_21) 65521) ((2 * (amp.toInt64)) + 1)) - (amp.toInt64)).toInt32) hx hb dX1_noise_56 rfl ?_
    exact re_i hQ ha hx hb hr hlk hAe hP hS dX1_noise_57 (by subst er_21; first | rfl | simp [fNoise, c_36]) (by subst er_21; first | rfl | simp [fNoise, c_36])
  · -- no
    have c_36 := mt (lg_cmp_ge _ _).mpr c_36
    refine lv_iconst (v := 0) hx hb dX1_noise_39 (by decide) ?_
    refine lv_goto (tgt := 57) hx hb dX1_noise_40 (by decide) ?_
    exact re_i hQ ha hx hb hr hlk hAe hP hS dX1_noise_57 (by subst er_21; first | rfl | simp [fNoise, c_36]) (by subst er_21; first | rfl | simp [fNoise, c_36])
def rm_X1_delayed : Room := { frames := 2, cells := 0, slots := 0, locals := 44 }
theorem iX1_delayed_1 : ∀ w ∈ u_ws RX1 TX1 9, w ∈ wsX1_delayed := fun w h => (List.mem_cons_of_mem _ (List.mem_append_right _ h))
set_option maxHeartbeats 1000000 in
set_option maxRecDepth 100000 in
theorem c_X1_delayed (Γ : gT) (l : Launch) (a : Nat → Nat) (b : Nat) (σ : Lop) (sg : Int32) (val : Int32) (tenths : Int32)  : Ci Γ l yX1_delayed wsX1_delayed rm_X1_delayed [.ref (a b), .int sg, .int val, .int tenths] (lopW Γ a b σ) (fDelay (lNow σ) (lRecs σ) sg val tenths) (lopW Γ a b σ) := by
  refine Ci.of (cc := cX1_delayed) (own := RX1) (nL := 10) (ret := (some .int)) (by decide +kernel) rfl rfl (Nat.le_of_ble_eq_true rfl) ?_
  intro p e s m args below meth c A Q H locs ls ha hAe hQ hx hb hml hr hts hown hlk hP hK hD hS hA hG hl
  have hh : Hd Γ p s m args c cX1_delayed RX1 10 wsX1_delayed A := ⟨⟨hx, hb, hml, hown, hts⟩, hK, hA, hG⟩
  have hl : lv_has ls 10 [(0, .ref (a b)), (1, .int sg), (2, .int val), (3, .int tenths)] := hl
  refine lv_iload_n hx hb dX1_delayed_0 rfl (lv_at hl 3 rfl) ?_
  refine lv_bipush (v := 10) hx hb dX1_delayed_1 (by decide) ?_
  refine lv_idiv hx hb dX1_delayed_3 (by decide) ?_
  refine lv_istore (lv' := [(4, .int (tenths / 10)), (0, .ref (a b)), (1, .int sg), (2, .int val), (3, .int tenths)]) hx hb dX1_delayed_4 hl (by decide) rfl (fun ls hl => ?_)
  refine lv_iload_n hx hb dX1_delayed_6 rfl (lv_at hl 4 rfl) ?_
  refine lv_bipush (v := 10) hx hb dX1_delayed_7 (by decide) ?_
  refine lv_irem hx hb dX1_delayed_9 (by decide) ?_
  refine lv_istore (lv' := [(5, .int (iRem tenths 10)), (4, .int (tenths / 10)), (0, .ref (a b)), (1, .int sg), (2, .int val), (3, .int tenths)]) hx hb dX1_delayed_10 hl (by decide) rfl (fun ls hl => ?_)
  refine lv_iload hx hb dX1_delayed_12 (lv_at hl 1 rfl) ?_
  refine lv_if_ne (tgt := 22) hx hb dX1_delayed_14 (by decide) (fun c_14 => ?_) (fun c_14 => ?_)
  · -- yes
    refine lv_aload_n hx hb dX1_delayed_22 rfl (lv_at hl 2 rfl) ?_
    refine lv_iload_n hx hb dX1_delayed_23 rfl (lv_at hl 3 rfl) ?_
    refine lv_aload_n hx hb dX1_delayed_24 rfl (lv_at hl 2 rfl) ?_
    refine va_get (D := gD Γ) (cl := vwCl) (tys := gTy Γ) (ci := 1) (v := .int (lNow σ)) (C := RX1) (T := TX1) (N := 9) hx hb hts iX1_delayed_1 hown hK hP 0 rfl rfl 0 (Nat.le_of_ble_eq_true rfl) (hts (.fieldLink RX1 9 "DeadTimeLoop$Loop" "now" "I") (List.mem_of_getElem? (i := 1) rfl)) (fun _ h9 => h9) rfl dX1_delayed_25 ?_
    refine lv_iload hx hb dX1_delayed_28 (lv_at hl 1 rfl) ?_
    refine lv_isub hx hb dX1_delayed_30 ?_
    refine ca_Via hh hl.1 (c_X1_recordOf Γ l a b σ sg ((lNow σ) - (tenths / 10))) (cwV 2 hts gX1_delayed_X1_recordOf rfl rfl rfl (by decide +kernel) ⟨(Nat.le_of_ble_eq_true rfl), (Nat.le_of_ble_eq_true rfl)⟩) (As := [.int sg, .int ((lNow σ) - (tenths / 10))]) (rest := []) rfl dX1_delayed_31 rfl (Nat.le_of_ble_eq_true rfl) hP hD hS (q0 := 0) (ci := 1) rfl rfl rfl (wf := lopW Γ a b σ) rfl ⟨Nat.zero_le _, Nat.zero_le _⟩ (fun H locs hP hD hS => ?_)
    refine lv_i2l (v := (fRec (lNow σ) (lRecs σ) sg ((lNow σ) - (tenths / 10))).toInt64) hx hb dX1_delayed_34 rfl ?_
    refine lv_lstore (lv' := [(6, .long ((fRec (lNow σ) (lRecs σ) sg ((lNow σ) - (tenths / 10))).toInt64)), (5, .int (iRem tenths 10)), (4, .int (tenths / 10)), (0, .ref (a b)), (1, .int sg), (2, .int val), (3, .int tenths)]) hx hb dX1_delayed_35 hl (by decide) rfl (fun ls hl => ?_)
    refine lv_aload_n hx hb dX1_delayed_37 rfl (lv_at hl 3 rfl) ?_
    refine lv_iload_n hx hb dX1_delayed_38 rfl (lv_at hl 4 rfl) ?_
    refine lv_aload_n hx hb dX1_delayed_39 rfl (lv_at hl 3 rfl) ?_
    refine va_get (D := gD Γ) (cl := vwCl) (tys := gTy Γ) (ci := 1) (v := .int (lNow σ)) (C := RX1) (T := TX1) (N := 9) hx hb hts iX1_delayed_1 hown hK hP 0 rfl rfl 0 (Nat.le_of_ble_eq_true rfl) (hts (.fieldLink RX1 9 "DeadTimeLoop$Loop" "now" "I") (List.mem_of_getElem? (i := 1) rfl)) (fun _ h9 => h9) rfl dX1_delayed_40 ?_
    refine lv_iload hx hb dX1_delayed_43 (lv_at hl 2 rfl) ?_
    refine lv_isub hx hb dX1_delayed_45 ?_
    refine lv_iconst (v := 1) hx hb dX1_delayed_46 (by decide) ?_
    refine lv_isub hx hb dX1_delayed_47 ?_
    refine ca_Via hh hl.1 (c_X1_recordOf Γ l a b σ sg (((lNow σ) - (tenths / 10)) - 1)) (cwV 2 hts gX1_delayed_X1_recordOf rfl rfl rfl (by decide +kernel) ⟨(Nat.le_of_ble_eq_true rfl), (Nat.le_of_ble_eq_true rfl)⟩) (As := [.int sg, .int (((lNow σ) - (tenths / 10)) - 1)]) (rest := []) rfl dX1_delayed_48 rfl (Nat.le_of_ble_eq_true rfl) hP hD hS (q0 := 0) (ci := 1) rfl rfl rfl (wf := lopW Γ a b σ) rfl ⟨Nat.zero_le _, Nat.zero_le _⟩ (fun H locs hP hD hS => ?_)
    refine lv_i2l (v := (fRec (lNow σ) (lRecs σ) sg (((lNow σ) - (tenths / 10)) - 1)).toInt64) hx hb dX1_delayed_51 rfl ?_
    refine lv_lstore (lv' := [(8, .long ((fRec (lNow σ) (lRecs σ) sg (((lNow σ) - (tenths / 10)) - 1)).toInt64)), (6, .long ((fRec (lNow σ) (lRecs σ) sg ((lNow σ) - (tenths / 10))).toInt64)), (5, .int (iRem tenths 10)), (4, .int (tenths / 10)), (0, .ref (a b)), (1, .int sg), (2, .int val), (3, .int tenths)]) hx hb dX1_delayed_52 hl (by decide) rfl (fun ls hl => ?_)
    refine lv_lload hx hb dX1_delayed_54 (lv_at hl 1 rfl) ?_
    refine lv_bipush (v := 10) hx hb dX1_delayed_56 (by decide) ?_
    refine lv_iload hx hb dX1_delayed_58 (lv_at hl 2 rfl) ?_
    refine lv_isub hx hb dX1_delayed_60 ?_
    refine lv_i2l (v := (10 - (iRem tenths 10)).toInt64) hx hb dX1_delayed_61 rfl ?_
    refine lv_lmul hx hb dX1_delayed_62 ?_
    refine lv_lload hx hb dX1_delayed_63 (lv_at hl 0 rfl) ?_
    refine lv_iload hx hb dX1_delayed_65 (lv_at hl 2 rfl) ?_
    refine lv_i2l (v := (iRem tenths 10).toInt64) hx hb dX1_delayed_67 rfl ?_
    refine lv_lmul hx hb dX1_delayed_68 ?_
    refine lv_ladd hx hb dX1_delayed_69 ?_
    refine lv_ldc2 hx hb hown (hts (.constantLong RX1 134 (10)) (List.mem_of_getElem? (i := 2) rfl)) dX1_delayed_70 ?_
    refine ca_Sl hh hl.1 (c_J9_floorDiv_f86c9 Γ l ((((fRec (lNow σ) (lRecs σ) sg ((lNow σ) - (tenths / 10))).toInt64) * ((10 - (iRem tenths 10)).toInt64)) + (((fRec (lNow σ) (lRecs σ) sg (((lNow σ) - (tenths / 10)) - 1)).toInt64) * ((iRem tenths 10).toInt64))) 10 (by decide)) (va_cwS 2 hts gX1_delayed_J9_floorDiv_f86c9 rfl rfl rfl (by decide +kernel) ⟨(Nat.le_of_ble_eq_true rfl), (Nat.le_of_ble_eq_true rfl)⟩) (As := [.long ((((fRec (lNow σ) (lRecs σ) sg ((lNow σ) - (tenths / 10))).toInt64) * ((10 - (iRem tenths 10)).toInt64)) + (((fRec (lNow σ) (lRecs σ) sg (((lNow σ) - (tenths / 10)) - 1)).toInt64) * ((iRem tenths 10).toInt64))), .long 10]) (rest := []) rfl dX1_delayed_73 rfl (Nat.le_of_ble_eq_true rfl) hP hD hS ⟨Nat.zero_le _, Nat.zero_le _⟩ (fun H locs hP hS => ?_)
    refine lv_l2i (v := (kFdiv ((((fRec (lNow σ) (lRecs σ) sg ((lNow σ) - (tenths / 10))).toInt64) * ((10 - (iRem tenths 10)).toInt64)) + (((fRec (lNow σ) (lRecs σ) sg (((lNow σ) - (tenths / 10)) - 1)).toInt64) * ((iRem tenths 10).toInt64))) 10).toInt32) hx hb dX1_delayed_76 rfl ?_
    exact re_i hQ ha hx hb hr hlk hAe hP hS dX1_delayed_77 (by skip; first | rfl | simp [fDelay, fDelNew, fDel2, c_14]) (by skip; first | rfl | simp [fDelay, fDelNew, fDel2, c_14])
  · -- no
    refine lv_iload_n hx hb dX1_delayed_17 rfl (lv_at hl 4 rfl) ?_
    refine lv_i2l (v := val.toInt64) hx hb dX1_delayed_18 rfl ?_
    refine lv_goto (tgt := 35) hx hb dX1_delayed_19 (by decide) ?_
    refine lv_lstore (lv' := [(6, .long (val.toInt64)), (5, .int (iRem tenths 10)), (4, .int (tenths / 10)), (0, .ref (a b)), (1, .int sg), (2, .int val), (3, .int tenths)]) hx hb dX1_delayed_35 hl (by decide) rfl (fun ls hl => ?_)
    refine lv_aload_n hx hb dX1_delayed_37 rfl (lv_at hl 3 rfl) ?_
    refine lv_iload_n hx hb dX1_delayed_38 rfl (lv_at hl 4 rfl) ?_
    refine lv_aload_n hx hb dX1_delayed_39 rfl (lv_at hl 3 rfl) ?_
    refine va_get (D := gD Γ) (cl := vwCl) (tys := gTy Γ) (ci := 1) (v := .int (lNow σ)) (C := RX1) (T := TX1) (N := 9) hx hb hts iX1_delayed_1 hown hK hP 0 rfl rfl 0 (Nat.le_of_ble_eq_true rfl) (hts (.fieldLink RX1 9 "DeadTimeLoop$Loop" "now" "I") (List.mem_of_getElem? (i := 1) rfl)) (fun _ h9 => h9) rfl dX1_delayed_40 ?_
    refine lv_iload hx hb dX1_delayed_43 (lv_at hl 2 rfl) ?_
    refine lv_isub hx hb dX1_delayed_45 ?_
    refine lv_iconst (v := 1) hx hb dX1_delayed_46 (by decide) ?_
    refine lv_isub hx hb dX1_delayed_47 ?_
    refine ca_Via hh hl.1 (c_X1_recordOf Γ l a b σ sg (((lNow σ) - (tenths / 10)) - 1)) (cwV 2 hts gX1_delayed_X1_recordOf rfl rfl rfl (by decide +kernel) ⟨(Nat.le_of_ble_eq_true rfl), (Nat.le_of_ble_eq_true rfl)⟩) (As := [.int sg, .int (((lNow σ) - (tenths / 10)) - 1)]) (rest := []) rfl dX1_delayed_48 rfl (Nat.le_of_ble_eq_true rfl) hP hD hS (q0 := 0) (ci := 1) rfl rfl rfl (wf := lopW Γ a b σ) rfl ⟨Nat.zero_le _, Nat.zero_le _⟩ (fun H locs hP hD hS => ?_)
    refine lv_i2l (v := (fRec (lNow σ) (lRecs σ) sg (((lNow σ) - (tenths / 10)) - 1)).toInt64) hx hb dX1_delayed_51 rfl ?_
    refine lv_lstore (lv' := [(8, .long ((fRec (lNow σ) (lRecs σ) sg (((lNow σ) - (tenths / 10)) - 1)).toInt64)), (6, .long (val.toInt64)), (5, .int (iRem tenths 10)), (4, .int (tenths / 10)), (0, .ref (a b)), (1, .int sg), (2, .int val), (3, .int tenths)]) hx hb dX1_delayed_52 hl (by decide) rfl (fun ls hl => ?_)
    refine lv_lload hx hb dX1_delayed_54 (lv_at hl 1 rfl) ?_
    refine lv_bipush (v := 10) hx hb dX1_delayed_56 (by decide) ?_
    refine lv_iload hx hb dX1_delayed_58 (lv_at hl 2 rfl) ?_
    refine lv_isub hx hb dX1_delayed_60 ?_
    refine lv_i2l (v := (10 - (iRem tenths 10)).toInt64) hx hb dX1_delayed_61 rfl ?_
    refine lv_lmul hx hb dX1_delayed_62 ?_
    refine lv_lload hx hb dX1_delayed_63 (lv_at hl 0 rfl) ?_
    refine lv_iload hx hb dX1_delayed_65 (lv_at hl 2 rfl) ?_
    refine lv_i2l (v := (iRem tenths 10).toInt64) hx hb dX1_delayed_67 rfl ?_
    refine lv_lmul hx hb dX1_delayed_68 ?_
    refine lv_ladd hx hb dX1_delayed_69 ?_
    refine lv_ldc2 hx hb hown (hts (.constantLong RX1 134 (10)) (List.mem_of_getElem? (i := 2) rfl)) dX1_delayed_70 ?_
    refine ca_Sl hh hl.1 (c_J9_floorDiv_f86c9 Γ l (((val.toInt64) * ((10 - (iRem tenths 10)).toInt64)) + (((fRec (lNow σ) (lRecs σ) sg (((lNow σ) - (tenths / 10)) - 1)).toInt64) * ((iRem tenths 10).toInt64))) 10 (by decide)) (va_cwS 2 hts gX1_delayed_J9_floorDiv_f86c9 rfl rfl rfl (by decide +kernel) ⟨(Nat.le_of_ble_eq_true rfl), (Nat.le_of_ble_eq_true rfl)⟩) (As := [.long (((val.toInt64) * ((10 - (iRem tenths 10)).toInt64)) + (((fRec (lNow σ) (lRecs σ) sg (((lNow σ) - (tenths / 10)) - 1)).toInt64) * ((iRem tenths 10).toInt64))), .long 10]) (rest := []) rfl dX1_delayed_73 rfl (Nat.le_of_ble_eq_true rfl) hP hD hS ⟨Nat.zero_le _, Nat.zero_le _⟩ (fun H locs hP hS => ?_)
    refine lv_l2i (v := (kFdiv (((val.toInt64) * ((10 - (iRem tenths 10)).toInt64)) + (((fRec (lNow σ) (lRecs σ) sg (((lNow σ) - (tenths / 10)) - 1)).toInt64) * ((iRem tenths 10).toInt64))) 10).toInt32) hx hb dX1_delayed_76 rfl ?_
    exact re_i hQ ha hx hb hr hlk hAe hP hS dX1_delayed_77 (by skip; first | rfl | simp [fDelay, fDelNew, fDel2, c_14]) (by skip; first | rfl | simp [fDelay, fDelNew, fDel2, c_14])
def rm_X1_judge : Room := { frames := 0, cells := 0, slots := 0, locals := 0 }
theorem iX1_judge_1 : ∀ w ∈ u_ws RX1 TX1 9, w ∈ wsX1_judge := fun w h => (List.mem_cons_of_mem _ (List.mem_append_right _ h))
set_option maxHeartbeats 1000000 in
set_option maxRecDepth 100000 in
theorem c_X1_judge (Γ : gT) (l : Launch) (a : Nat → Nat) (b : Nat) (σ : Lop) (isBad : Int32) (pat : Int32)  : Cv Γ l yX1_judge wsX1_judge rm_X1_judge [.ref (a b), .int isBad, .int pat] (lopW Γ a b σ) (lopW Γ a b (fJudge σ isBad pat)) := by
  refine Cv.of (cc := cX1_judge) (own := RX1) (nL := 5) (ret := none) (by decide +kernel) rfl rfl (Nat.le_of_ble_eq_true rfl) ?_
  intro p e s m args below meth c A Q H locs ls ha hAe hQ hx hb hml hr hts hown hlk hP hK hD hS hA hG hl
  have hh : Hd Γ p s m args c cX1_judge RX1 5 wsX1_judge A := ⟨⟨hx, hb, hml, hown, hts⟩, hK, hA, hG⟩
  have hl : lv_has ls 5 [(0, .ref (a b)), (1, .int isBad), (2, .int pat)] := hl
  refine lv_aload_n hx hb dX1_judge_0 rfl (lv_at hl 0 rfl) ?_
  refine lv_iload_n hx hb dX1_judge_1 rfl (lv_at hl 1 rfl) ?_
  refine lv_if_eq (tgt := 14) hx hb dX1_judge_2 (by decide) (fun c_2 => ?_) (fun c_2 => ?_)
  · -- yes
    refine lv_iconst (v := 0) hx hb dX1_judge_14 (by decide) ?_
    refine va_put (D := gD Γ) (cl := vwCl) (tys := gTy Γ) (ci := 1) (v := .int 0) (ty := tyX1 3) (C := RX1) (T := TX1) (N := 9) hx hb hts iX1_judge_1 tyX1 tyX1_ok nmX1 hown hK hP hD hS 0 rfl rfl 3 (Nat.le_of_ble_eq_true rfl) (hts (.fieldLink RX1 21 "DeadTimeLoop$Loop" "badTicks" "I") (List.mem_of_getElem? (i := 1) rfl)) (fun _ h9 => h9) rfl (tyX1_ok 3 (Nat.le_of_ble_eq_true rfl)) rfl rfl (Nat.le_of_ble_eq_true rfl) dX1_judge_15 (fun H locs hP hD hS => ?_)
    have hP : va_P (gD Γ) vwCl (lopW Γ a b ((lNow σ), (lLoad σ), (lSeed σ), 0, (lGood σ), (lPres σ), (lRecs σ), (lSec σ), (lWat σ))) H := hP
    have hD : va_D A (lopW Γ a b ((lNow σ), (lLoad σ), (lSeed σ), 0, (lGood σ), (lPres σ), (lRecs σ), (lSec σ), (lWat σ))) := hD
    refine lv_aload_n hx hb dX1_judge_18 rfl (lv_at hl 0 rfl) ?_
    refine lv_iload_n hx hb dX1_judge_19 rfl (lv_at hl 1 rfl) ?_
    refine lv_if_eq (tgt := 27) hx hb dX1_judge_20 (by decide) (fun _ => ?_) (fun c => absurd c_2 c)
    refine lv_aload_n hx hb dX1_judge_27 rfl (lv_at hl 0 rfl) ?_
    refine va_get (D := gD Γ) (cl := vwCl) (tys := gTy Γ) (ci := 1) (v := .int (lGood σ)) (C := RX1) (T := TX1) (N := 9) hx hb hts iX1_judge_1 hown hK hP 0 rfl rfl 4 (Nat.le_of_ble_eq_true rfl) (hts (.fieldLink RX1 24 "DeadTimeLoop$Loop" "goodTicks" "I") (List.mem_of_getElem? (i := 2) rfl)) (fun _ h9 => h9) rfl dX1_judge_28 ?_
    refine lv_iconst (v := 1) hx hb dX1_judge_31 (by decide) ?_
    refine lv_iadd hx hb dX1_judge_32 ?_
    refine va_put (D := gD Γ) (cl := vwCl) (tys := gTy Γ) (ci := 1) (v := .int ((lGood σ) + 1)) (ty := tyX1 4) (C := RX1) (T := TX1) (N := 9) hx hb hts iX1_judge_1 tyX1 tyX1_ok nmX1 hown hK hP hD hS 0 rfl rfl 4 (Nat.le_of_ble_eq_true rfl) (hts (.fieldLink RX1 24 "DeadTimeLoop$Loop" "goodTicks" "I") (List.mem_of_getElem? (i := 2) rfl)) (fun _ h9 => h9) rfl (tyX1_ok 4 (Nat.le_of_ble_eq_true rfl)) rfl rfl (Nat.le_of_ble_eq_true rfl) dX1_judge_33 (fun H locs hP hD hS => ?_)
    have hP : va_P (gD Γ) vwCl (lopW Γ a b ((lNow σ), (lLoad σ), (lSeed σ), 0, ((lGood σ) + 1), (lPres σ), (lRecs σ), (lSec σ), (lWat σ))) H := hP
    have hD : va_D A (lopW Γ a b ((lNow σ), (lLoad σ), (lSeed σ), 0, ((lGood σ) + 1), (lPres σ), (lRecs σ), (lSec σ), (lWat σ))) := hD
    have hJ_59 : ∀ (v3 : Int32), (v3 = fRej ((lPres σ) 9) 0 pat) → ∀ (H : Heap) (locs : List Loc) (ls : Array Slot), va_P (gD Γ) vwCl (lopW Γ a b ((lNow σ), (lLoad σ), (lSeed σ), 0, ((lGood σ) + 1), (lPres σ), (lRecs σ), (lSec σ), (lWat σ))) H → va_D A (lopW Γ a b ((lNow σ), (lLoad σ), (lSeed σ), 0, ((lGood σ) + 1), (lPres σ), (lRecs σ), (lSec σ), (lWat σ))) → va_S A s.heap H locs → lv_has ls 5 [(0, .ref (a b)), (1, .int isBad), (2, .int pat)] → W p l e rm_X1_judge s m args below meth c H locs 0 0 Q (F0 m 59 ls [.int v3]) := by
      intro v3 e3 H locs ls hP hD hS hl
      refine lv_istore_n (lv' := [(3, .int v3), (0, .ref (a b)), (1, .int isBad), (2, .int pat)]) hx hb dX1_judge_59 rfl hl (by decide) rfl (fun ls hl => ?_)
      have hJ_86 : ∀ (v4 : Int32), (v4 = fTru ((lPres σ) 9) ((lGood σ) + 1) pat) → ∀ (H : Heap) (locs : List Loc) (ls : Array Slot), va_P (gD Γ) vwCl (lopW Γ a b ((lNow σ), (lLoad σ), (lSeed σ), 0, ((lGood σ) + 1), (lPres σ), (lRecs σ), (lSec σ), (lWat σ))) H → va_D A (lopW Γ a b ((lNow σ), (lLoad σ), (lSeed σ), 0, ((lGood σ) + 1), (lPres σ), (lRecs σ), (lSec σ), (lWat σ))) → va_S A s.heap H locs → lv_has ls 5 [(0, .ref (a b)), (1, .int isBad), (2, .int pat), (3, .int v3)] → W p l e rm_X1_judge s m args below meth c H locs 0 0 Q (F0 m 86 ls [.int v4]) := by
        intro v4 e4 H locs ls hP hD hS hl
        refine lv_istore (lv' := [(4, .int v4), (0, .ref (a b)), (1, .int isBad), (2, .int pat), (3, .int v3)]) hx hb dX1_judge_86 hl (by decide) rfl (fun ls hl => ?_)
        refine lv_iload_n hx hb dX1_judge_88 rfl (lv_at hl 4 rfl) ?_
        refine lv_if_ne (tgt := 97) hx hb dX1_judge_89 (by decide) (fun c_89 => ?_) (fun c_89 => ?_)
        · -- yes
          refine lv_aload_n hx hb dX1_judge_97 rfl (lv_at hl 1 rfl) ?_
          refine va_get (D := gD Γ) (cl := vwCl) (tys := gTy Γ) (ci := 1) (v := .ref (a (b + 1))) (C := RX1) (T := TX1) (N := 9) hx hb hts iX1_judge_1 hown hK hP 0 rfl rfl 5 (Nat.le_of_ble_eq_true rfl) (hts (.fieldLink RX1 27 "DeadTimeLoop$Loop" "present" "[I") (List.mem_of_getElem? (i := 3) rfl)) (fun _ h9 => h9) rfl dX1_judge_98 ?_
          refine lv_bipush (v := 9) hx hb dX1_judge_101 (by decide) ?_
          refine lv_iload_n hx hb dX1_judge_103 rfl (lv_at hl 4 rfl) ?_
          refine lv_if_eq (tgt := 111) hx hb dX1_judge_104 (by decide) (fun c => absurd c c_89) (fun _ => ?_)
          refine lv_iconst (v := 1) hx hb dX1_judge_107 (by decide) ?_
          refine lv_goto (tgt := 112) hx hb dX1_judge_108 (by decide) ?_
          refine ka_iast (D := gD Γ) (cl := vwCl) (tys := gTy Γ) hx hb hK hP hD hS 1 0 rfl rfl 9 (by decide) (by decide) (by decide) (wf := lopW Γ a b ((lNow σ), (lLoad σ), (lSeed σ), 0, ((lGood σ) + 1), (upd (lPres σ) 9 1), (lRecs σ), (lSec σ), (lWat σ))) rfl dX1_judge_112 (fun H locs hP hD hS => ?_)
          refine lv_aload_n hx hb dX1_judge_113 rfl (lv_at hl 1 rfl) ?_
          refine lv_iconst (v := 0) hx hb dX1_judge_114 (by decide) ?_
          refine va_put (D := gD Γ) (cl := vwCl) (tys := gTy Γ) (ci := 1) (v := .int 0) (ty := tyX1 3) (C := RX1) (T := TX1) (N := 9) hx hb hts iX1_judge_1 tyX1 tyX1_ok nmX1 hown hK hP hD hS 0 rfl rfl 3 (Nat.le_of_ble_eq_true rfl) (hts (.fieldLink RX1 21 "DeadTimeLoop$Loop" "badTicks" "I") (List.mem_of_getElem? (i := 1) rfl)) (fun _ h9 => h9) rfl (tyX1_ok 3 (Nat.le_of_ble_eq_true rfl)) rfl rfl (Nat.le_of_ble_eq_true rfl) dX1_judge_115 (fun H locs hP hD hS => ?_)
          have hP : va_P (gD Γ) vwCl (lopW Γ a b ((lNow σ), (lLoad σ), (lSeed σ), 0, ((lGood σ) + 1), (upd (lPres σ) 9 1), (lRecs σ), (lSec σ), (lWat σ))) H := hP
          have hD : va_D A (lopW Γ a b ((lNow σ), (lLoad σ), (lSeed σ), 0, ((lGood σ) + 1), (upd (lPres σ) 9 1), (lRecs σ), (lSec σ), (lWat σ))) := hD
          refine lv_aload_n hx hb dX1_judge_118 rfl (lv_at hl 1 rfl) ?_
          refine lv_iconst (v := 0) hx hb dX1_judge_119 (by decide) ?_
          refine va_put (D := gD Γ) (cl := vwCl) (tys := gTy Γ) (ci := 1) (v := .int 0) (ty := tyX1 4) (C := RX1) (T := TX1) (N := 9) hx hb hts iX1_judge_1 tyX1 tyX1_ok nmX1 hown hK hP hD hS 0 rfl rfl 4 (Nat.le_of_ble_eq_true rfl) (hts (.fieldLink RX1 24 "DeadTimeLoop$Loop" "goodTicks" "I") (List.mem_of_getElem? (i := 2) rfl)) (fun _ h9 => h9) rfl (tyX1_ok 4 (Nat.le_of_ble_eq_true rfl)) rfl rfl (Nat.le_of_ble_eq_true rfl) dX1_judge_120 (fun H locs hP hD hS => ?_)
          have hP : va_P (gD Γ) vwCl (lopW Γ a b ((lNow σ), (lLoad σ), (lSeed σ), 0, 0, (upd (lPres σ) 9 1), (lRecs σ), (lSec σ), (lWat σ))) H := hP
          have hD : va_D A (lopW Γ a b ((lNow σ), (lLoad σ), (lSeed σ), 0, 0, (upd (lPres σ) 9 1), (lRecs σ), (lSec σ), (lWat σ))) := hD
          exact re_v hQ ha hx hb hr hlk hAe hP hS dX1_judge_123 (by subst e4; subst e3; first | rfl | simp [fJudge, fJudge2, fBad, fGood, c_2, c_89])
        · -- no
          refine lv_iload hx hb dX1_judge_92 (lv_at hl 0 rfl) ?_
          refine lv_if_eq (tgt := 123) hx hb dX1_judge_94 (by decide) (fun c_94 => ?_) (fun c_94 => ?_)
          · -- yes
            exact re_v hQ ha hx hb hr hlk hAe hP hS dX1_judge_123 (by subst e4; subst e3; first | rfl | simp [fJudge, fJudge2, fBad, fGood, c_2, c_89, c_94])
          · -- no
            refine lv_aload_n hx hb dX1_judge_97 rfl (lv_at hl 1 rfl) ?_
            refine va_get (D := gD Γ) (cl := vwCl) (tys := gTy Γ) (ci := 1) (v := .ref (a (b + 1))) (C := RX1) (T := TX1) (N := 9) hx hb hts iX1_judge_1 hown hK hP 0 rfl rfl 5 (Nat.le_of_ble_eq_true rfl) (hts (.fieldLink RX1 27 "DeadTimeLoop$Loop" "present" "[I") (List.mem_of_getElem? (i := 3) rfl)) (fun _ h9 => h9) rfl dX1_judge_98 ?_
            refine lv_bipush (v := 9) hx hb dX1_judge_101 (by decide) ?_
            refine lv_iload_n hx hb dX1_judge_103 rfl (lv_at hl 4 rfl) ?_
            refine lv_if_eq (tgt := 111) hx hb dX1_judge_104 (by decide) (fun _ => ?_) (fun c => absurd c_89 c)
            refine lv_iconst (v := 0) hx hb dX1_judge_111 (by decide) ?_
            refine ka_iast (D := gD Γ) (cl := vwCl) (tys := gTy Γ) hx hb hK hP hD hS 1 0 rfl rfl 9 (by decide) (by decide) (by decide) (wf := lopW Γ a b ((lNow σ), (lLoad σ), (lSeed σ), 0, ((lGood σ) + 1), (upd (lPres σ) 9 0), (lRecs σ), (lSec σ), (lWat σ))) rfl dX1_judge_112 (fun H locs hP hD hS => ?_)
            refine lv_aload_n hx hb dX1_judge_113 rfl (lv_at hl 1 rfl) ?_
            refine lv_iconst (v := 0) hx hb dX1_judge_114 (by decide) ?_
            refine va_put (D := gD Γ) (cl := vwCl) (tys := gTy Γ) (ci := 1) (v := .int 0) (ty := tyX1 3) (C := RX1) (T := TX1) (N := 9) hx hb hts iX1_judge_1 tyX1 tyX1_ok nmX1 hown hK hP hD hS 0 rfl rfl 3 (Nat.le_of_ble_eq_true rfl) (hts (.fieldLink RX1 21 "DeadTimeLoop$Loop" "badTicks" "I") (List.mem_of_getElem? (i := 1) rfl)) (fun _ h9 => h9) rfl (tyX1_ok 3 (Nat.le_of_ble_eq_true rfl)) rfl rfl (Nat.le_of_ble_eq_true rfl) dX1_judge_115 (fun H locs hP hD hS => ?_)
            have hP : va_P (gD Γ) vwCl (lopW Γ a b ((lNow σ), (lLoad σ), (lSeed σ), 0, ((lGood σ) + 1), (upd (lPres σ) 9 0), (lRecs σ), (lSec σ), (lWat σ))) H := hP
            have hD : va_D A (lopW Γ a b ((lNow σ), (lLoad σ), (lSeed σ), 0, ((lGood σ) + 1), (upd (lPres σ) 9 0), (lRecs σ), (lSec σ), (lWat σ))) := hD
            refine lv_aload_n hx hb dX1_judge_118 rfl (lv_at hl 1 rfl) ?_
            refine lv_iconst (v := 0) hx hb dX1_judge_119 (by decide) ?_
            refine va_put (D := gD Γ) (cl := vwCl) (tys := gTy Γ) (ci := 1) (v := .int 0) (ty := tyX1 4) (C := RX1) (T := TX1) (N := 9) hx hb hts iX1_judge_1 tyX1 tyX1_ok nmX1 hown hK hP hD hS 0 rfl rfl 4 (Nat.le_of_ble_eq_true rfl) (hts (.fieldLink RX1 24 "DeadTimeLoop$Loop" "goodTicks" "I") (List.mem_of_getElem? (i := 2) rfl)) (fun _ h9 => h9) rfl (tyX1_ok 4 (Nat.le_of_ble_eq_true rfl)) rfl rfl (Nat.le_of_ble_eq_true rfl) dX1_judge_120 (fun H locs hP hD hS => ?_)
            have hP : va_P (gD Γ) vwCl (lopW Γ a b ((lNow σ), (lLoad σ), (lSeed σ), 0, 0, (upd (lPres σ) 9 0), (lRecs σ), (lSec σ), (lWat σ))) H := hP
            have hD : va_D A (lopW Γ a b ((lNow σ), (lLoad σ), (lSeed σ), 0, 0, (upd (lPres σ) 9 0), (lRecs σ), (lSec σ), (lWat σ))) := hD
            exact re_v hQ ha hx hb hr hlk hAe hP hS dX1_judge_123 (by subst e4; subst e3; first | rfl | simp [fJudge, fJudge2, fBad, fGood, c_2, c_89, c_94])
      refine lv_aload_n hx hb dX1_judge_60 rfl (lv_at hl 1 rfl) ?_
      refine va_get (D := gD Γ) (cl := vwCl) (tys := gTy Γ) (ci := 1) (v := .ref (a (b + 1))) (C := RX1) (T := TX1) (N := 9) hx hb hts iX1_judge_1 hown hK hP 0 rfl rfl 5 (Nat.le_of_ble_eq_true rfl) (hts (.fieldLink RX1 27 "DeadTimeLoop$Loop" "present" "[I") (List.mem_of_getElem? (i := 3) rfl)) (fun _ h9 => h9) rfl dX1_judge_61 ?_
      refine lv_bipush (v := 9) hx hb dX1_judge_64 (by decide) ?_
      refine ka_iald (D := gD Γ) (cl := vwCl) (tys := gTy Γ) hx hb hK hP 1 0 rfl rfl 9 (by decide) (by decide) (by decide) (v := ((lPres σ) 9)) rfl dX1_judge_66 ?_
      refine lv_iconst (v := 1) hx hb dX1_judge_67 (by decide) ?_
      refine lv_icmp_ne (tgt := 85) hx hb dX1_judge_68 (by decide) (fun c_68 => ?_) (fun c_68 => ?_)
      · -- yes
        refine lv_iconst (v := 0) hx hb dX1_judge_85 (by decide) ?_
        exact hJ_86 _ (by simp [fTru, c_2, c_68]) _ _ _ hP hD hS (lv_sub hl [1, 2, 3, 0] rfl)
      · -- no
        refine lv_aload_n hx hb dX1_judge_71 rfl (lv_at hl 1 rfl) ?_
        refine va_get (D := gD Γ) (cl := vwCl) (tys := gTy Γ) (ci := 1) (v := .int ((lGood σ) + 1)) (C := RX1) (T := TX1) (N := 9) hx hb hts iX1_judge_1 hown hK hP 0 rfl rfl 4 (Nat.le_of_ble_eq_true rfl) (hts (.fieldLink RX1 24 "DeadTimeLoop$Loop" "goodTicks" "I") (List.mem_of_getElem? (i := 2) rfl)) (fun _ h9 => h9) rfl dX1_judge_72 ?_
        refine lv_iconst (v := 2) hx hb dX1_judge_75 (by decide) ?_
        refine lv_iload_n hx hb dX1_judge_76 rfl (lv_at hl 3 rfl) ?_
        refine lv_imul hx hb dX1_judge_77 ?_
        refine lv_icmp_lt (tgt := 85) hx hb dX1_judge_78 (by decide) (fun c_78 => ?_) (fun c_78 => ?_)
        · -- yes
          refine lv_iconst (v := 0) hx hb dX1_judge_85 (by decide) ?_
          exact hJ_86 _ (by simp [fTru, c_2, c_68, c_78]) _ _ _ hP hD hS (lv_sub hl [1, 2, 3, 0] rfl)
        · -- no
          refine lv_iconst (v := 1) hx hb dX1_judge_81 (by decide) ?_
          refine lv_goto (tgt := 86) hx hb dX1_judge_82 (by decide) ?_
          exact hJ_86 _ (by simp [fTru, c_2, c_68, c_78]) _ _ _ hP hD hS (lv_sub hl [1, 2, 3, 0] rfl)
    refine lv_aload_n hx hb dX1_judge_36 rfl (lv_at hl 0 rfl) ?_
    refine va_get (D := gD Γ) (cl := vwCl) (tys := gTy Γ) (ci := 1) (v := .ref (a (b + 1))) (C := RX1) (T := TX1) (N := 9) hx hb hts iX1_judge_1 hown hK hP 0 rfl rfl 5 (Nat.le_of_ble_eq_true rfl) (hts (.fieldLink RX1 27 "DeadTimeLoop$Loop" "present" "[I") (List.mem_of_getElem? (i := 3) rfl)) (fun _ h9 => h9) rfl dX1_judge_37 ?_
    refine lv_bipush (v := 9) hx hb dX1_judge_40 (by decide) ?_
    refine ka_iald (D := gD Γ) (cl := vwCl) (tys := gTy Γ) hx hb hK hP 1 0 rfl rfl 9 (by decide) (by decide) (by decide) (v := ((lPres σ) 9)) rfl dX1_judge_42 ?_
    refine lv_if_ne (tgt := 58) hx hb dX1_judge_43 (by decide) (fun c_43 => ?_) (fun c_43 => ?_)
    · -- yes
      refine lv_iconst (v := 0) hx hb dX1_judge_58 (by decide) ?_
      exact hJ_59 _ (by simp [fRej, c_2, c_43]) _ _ _ hP hD hS (lv_sub hl [0, 1, 2] rfl)
    · -- no
      refine lv_aload_n hx hb dX1_judge_46 rfl (lv_at hl 0 rfl) ?_
      refine va_get (D := gD Γ) (cl := vwCl) (tys := gTy Γ) (ci := 1) (v := .int 0) (C := RX1) (T := TX1) (N := 9) hx hb hts iX1_judge_1 hown hK hP 0 rfl rfl 3 (Nat.le_of_ble_eq_true rfl) (hts (.fieldLink RX1 21 "DeadTimeLoop$Loop" "badTicks" "I") (List.mem_of_getElem? (i := 1) rfl)) (fun _ h9 => h9) rfl dX1_judge_47 ?_
      refine lv_iload_n hx hb dX1_judge_50 rfl (lv_at hl 2 rfl) ?_
      refine lv_icmp_lt (tgt := 58) hx hb dX1_judge_51 (by decide) (fun c_51 => ?_) (fun c_51 => ?_)
      · -- yes
        refine lv_iconst (v := 0) hx hb dX1_judge_58 (by decide) ?_
        exact hJ_59 _ (by simp [fRej, c_2, c_43, c_51]) _ _ _ hP hD hS (lv_sub hl [0, 1, 2] rfl)
      · -- no
        refine lv_iconst (v := 1) hx hb dX1_judge_54 (by decide) ?_
        refine lv_goto (tgt := 59) hx hb dX1_judge_55 (by decide) ?_
        exact hJ_59 _ (by simp [fRej, c_2, c_43, c_51]) _ _ _ hP hD hS (lv_sub hl [0, 1, 2] rfl)
  · -- no
    refine lv_aload_n hx hb dX1_judge_5 rfl (lv_at hl 0 rfl) ?_
    refine va_get (D := gD Γ) (cl := vwCl) (tys := gTy Γ) (ci := 1) (v := .int (lBad σ)) (C := RX1) (T := TX1) (N := 9) hx hb hts iX1_judge_1 hown hK hP 0 rfl rfl 3 (Nat.le_of_ble_eq_true rfl) (hts (.fieldLink RX1 21 "DeadTimeLoop$Loop" "badTicks" "I") (List.mem_of_getElem? (i := 1) rfl)) (fun _ h9 => h9) rfl dX1_judge_6 ?_
    refine lv_iconst (v := 1) hx hb dX1_judge_9 (by decide) ?_
    refine lv_iadd hx hb dX1_judge_10 ?_
    refine lv_goto (tgt := 15) hx hb dX1_judge_11 (by decide) ?_
    refine va_put (D := gD Γ) (cl := vwCl) (tys := gTy Γ) (ci := 1) (v := .int ((lBad σ) + 1)) (ty := tyX1 3) (C := RX1) (T := TX1) (N := 9) hx hb hts iX1_judge_1 tyX1 tyX1_ok nmX1 hown hK hP hD hS 0 rfl rfl 3 (Nat.le_of_ble_eq_true rfl) (hts (.fieldLink RX1 21 "DeadTimeLoop$Loop" "badTicks" "I") (List.mem_of_getElem? (i := 1) rfl)) (fun _ h9 => h9) rfl (tyX1_ok 3 (Nat.le_of_ble_eq_true rfl)) rfl rfl (Nat.le_of_ble_eq_true rfl) dX1_judge_15 (fun H locs hP hD hS => ?_)
    have hP : va_P (gD Γ) vwCl (lopW Γ a b ((lNow σ), (lLoad σ), (lSeed σ), ((lBad σ) + 1), (lGood σ), (lPres σ), (lRecs σ), (lSec σ), (lWat σ))) H := hP
    have hD : va_D A (lopW Γ a b ((lNow σ), (lLoad σ), (lSeed σ), ((lBad σ) + 1), (lGood σ), (lPres σ), (lRecs σ), (lSec σ), (lWat σ))) := hD
    refine lv_aload_n hx hb dX1_judge_18 rfl (lv_at hl 0 rfl) ?_
    refine lv_iload_n hx hb dX1_judge_19 rfl (lv_at hl 1 rfl) ?_
    refine lv_if_eq (tgt := 27) hx hb dX1_judge_20 (by decide) (fun c => absurd c c_2) (fun _ => ?_)
    refine lv_iconst (v := 0) hx hb dX1_judge_23 (by decide) ?_
    refine lv_goto (tgt := 33) hx hb dX1_judge_24 (by decide) ?_
    refine va_put (D := gD Γ) (cl := vwCl) (tys := gTy Γ) (ci := 1) (v := .int 0) (ty := tyX1 4) (C := RX1) (T := TX1) (N := 9) hx hb hts iX1_judge_1 tyX1 tyX1_ok nmX1 hown hK hP hD hS 0 rfl rfl 4 (Nat.le_of_ble_eq_true rfl) (hts (.fieldLink RX1 24 "DeadTimeLoop$Loop" "goodTicks" "I") (List.mem_of_getElem? (i := 2) rfl)) (fun _ h9 => h9) rfl (tyX1_ok 4 (Nat.le_of_ble_eq_true rfl)) rfl rfl (Nat.le_of_ble_eq_true rfl) dX1_judge_33 (fun H locs hP hD hS => ?_)
    have hP : va_P (gD Γ) vwCl (lopW Γ a b ((lNow σ), (lLoad σ), (lSeed σ), ((lBad σ) + 1), 0, (lPres σ), (lRecs σ), (lSec σ), (lWat σ))) H := hP
    have hD : va_D A (lopW Γ a b ((lNow σ), (lLoad σ), (lSeed σ), ((lBad σ) + 1), 0, (lPres σ), (lRecs σ), (lSec σ), (lWat σ))) := hD
    have hJ_59 : ∀ (v3 : Int32), (v3 = fRej ((lPres σ) 9) ((lBad σ) + 1) pat) → ∀ (H : Heap) (locs : List Loc) (ls : Array Slot), va_P (gD Γ) vwCl (lopW Γ a b ((lNow σ), (lLoad σ), (lSeed σ), ((lBad σ) + 1), 0, (lPres σ), (lRecs σ), (lSec σ), (lWat σ))) H → va_D A (lopW Γ a b ((lNow σ), (lLoad σ), (lSeed σ), ((lBad σ) + 1), 0, (lPres σ), (lRecs σ), (lSec σ), (lWat σ))) → va_S A s.heap H locs → lv_has ls 5 [(0, .ref (a b)), (1, .int isBad), (2, .int pat)] → W p l e rm_X1_judge s m args below meth c H locs 0 0 Q (F0 m 59 ls [.int v3]) := by
      intro v3 e3 H locs ls hP hD hS hl
      refine lv_istore_n (lv' := [(3, .int v3), (0, .ref (a b)), (1, .int isBad), (2, .int pat)]) hx hb dX1_judge_59 rfl hl (by decide) rfl (fun ls hl => ?_)
      have hJ_86 : ∀ (v4 : Int32), (v4 = fTru ((lPres σ) 9) 0 pat) → ∀ (H : Heap) (locs : List Loc) (ls : Array Slot), va_P (gD Γ) vwCl (lopW Γ a b ((lNow σ), (lLoad σ), (lSeed σ), ((lBad σ) + 1), 0, (lPres σ), (lRecs σ), (lSec σ), (lWat σ))) H → va_D A (lopW Γ a b ((lNow σ), (lLoad σ), (lSeed σ), ((lBad σ) + 1), 0, (lPres σ), (lRecs σ), (lSec σ), (lWat σ))) → va_S A s.heap H locs → lv_has ls 5 [(0, .ref (a b)), (1, .int isBad), (2, .int pat), (3, .int v3)] → W p l e rm_X1_judge s m args below meth c H locs 0 0 Q (F0 m 86 ls [.int v4]) := by
        intro v4 e4 H locs ls hP hD hS hl
        refine lv_istore (lv' := [(4, .int v4), (0, .ref (a b)), (1, .int isBad), (2, .int pat), (3, .int v3)]) hx hb dX1_judge_86 hl (by decide) rfl (fun ls hl => ?_)
        refine lv_iload_n hx hb dX1_judge_88 rfl (lv_at hl 4 rfl) ?_
        refine lv_if_ne (tgt := 97) hx hb dX1_judge_89 (by decide) (fun c_89b => ?_) (fun c_89b => ?_)
        · -- yes
          refine lv_aload_n hx hb dX1_judge_97 rfl (lv_at hl 1 rfl) ?_
          refine va_get (D := gD Γ) (cl := vwCl) (tys := gTy Γ) (ci := 1) (v := .ref (a (b + 1))) (C := RX1) (T := TX1) (N := 9) hx hb hts iX1_judge_1 hown hK hP 0 rfl rfl 5 (Nat.le_of_ble_eq_true rfl) (hts (.fieldLink RX1 27 "DeadTimeLoop$Loop" "present" "[I") (List.mem_of_getElem? (i := 3) rfl)) (fun _ h9 => h9) rfl dX1_judge_98 ?_
          refine lv_bipush (v := 9) hx hb dX1_judge_101 (by decide) ?_
          refine lv_iload_n hx hb dX1_judge_103 rfl (lv_at hl 4 rfl) ?_
          refine lv_if_eq (tgt := 111) hx hb dX1_judge_104 (by decide) (fun c => absurd c c_89b) (fun _ => ?_)
          refine lv_iconst (v := 1) hx hb dX1_judge_107 (by decide) ?_
          refine lv_goto (tgt := 112) hx hb dX1_judge_108 (by decide) ?_
          refine ka_iast (D := gD Γ) (cl := vwCl) (tys := gTy Γ) hx hb hK hP hD hS 1 0 rfl rfl 9 (by decide) (by decide) (by decide) (wf := lopW Γ a b ((lNow σ), (lLoad σ), (lSeed σ), ((lBad σ) + 1), 0, (upd (lPres σ) 9 1), (lRecs σ), (lSec σ), (lWat σ))) rfl dX1_judge_112 (fun H locs hP hD hS => ?_)
          refine lv_aload_n hx hb dX1_judge_113 rfl (lv_at hl 1 rfl) ?_
          refine lv_iconst (v := 0) hx hb dX1_judge_114 (by decide) ?_
          refine va_put (D := gD Γ) (cl := vwCl) (tys := gTy Γ) (ci := 1) (v := .int 0) (ty := tyX1 3) (C := RX1) (T := TX1) (N := 9) hx hb hts iX1_judge_1 tyX1 tyX1_ok nmX1 hown hK hP hD hS 0 rfl rfl 3 (Nat.le_of_ble_eq_true rfl) (hts (.fieldLink RX1 21 "DeadTimeLoop$Loop" "badTicks" "I") (List.mem_of_getElem? (i := 1) rfl)) (fun _ h9 => h9) rfl (tyX1_ok 3 (Nat.le_of_ble_eq_true rfl)) rfl rfl (Nat.le_of_ble_eq_true rfl) dX1_judge_115 (fun H locs hP hD hS => ?_)
          have hP : va_P (gD Γ) vwCl (lopW Γ a b ((lNow σ), (lLoad σ), (lSeed σ), 0, 0, (upd (lPres σ) 9 1), (lRecs σ), (lSec σ), (lWat σ))) H := hP
          have hD : va_D A (lopW Γ a b ((lNow σ), (lLoad σ), (lSeed σ), 0, 0, (upd (lPres σ) 9 1), (lRecs σ), (lSec σ), (lWat σ))) := hD
          refine lv_aload_n hx hb dX1_judge_118 rfl (lv_at hl 1 rfl) ?_
          refine lv_iconst (v := 0) hx hb dX1_judge_119 (by decide) ?_
          refine va_put (D := gD Γ) (cl := vwCl) (tys := gTy Γ) (ci := 1) (v := .int 0) (ty := tyX1 4) (C := RX1) (T := TX1) (N := 9) hx hb hts iX1_judge_1 tyX1 tyX1_ok nmX1 hown hK hP hD hS 0 rfl rfl 4 (Nat.le_of_ble_eq_true rfl) (hts (.fieldLink RX1 24 "DeadTimeLoop$Loop" "goodTicks" "I") (List.mem_of_getElem? (i := 2) rfl)) (fun _ h9 => h9) rfl (tyX1_ok 4 (Nat.le_of_ble_eq_true rfl)) rfl rfl (Nat.le_of_ble_eq_true rfl) dX1_judge_120 (fun H locs hP hD hS => ?_)
          have hP : va_P (gD Γ) vwCl (lopW Γ a b ((lNow σ), (lLoad σ), (lSeed σ), 0, 0, (upd (lPres σ) 9 1), (lRecs σ), (lSec σ), (lWat σ))) H := hP
          have hD : va_D A (lopW Γ a b ((lNow σ), (lLoad σ), (lSeed σ), 0, 0, (upd (lPres σ) 9 1), (lRecs σ), (lSec σ), (lWat σ))) := hD
          exact re_v hQ ha hx hb hr hlk hAe hP hS dX1_judge_123 (by subst e4; subst e3; first | rfl | simp [fJudge, fJudge2, fBad, fGood, c_2, c_89b])
        · -- no
          refine lv_iload hx hb dX1_judge_92 (lv_at hl 0 rfl) ?_
          refine lv_if_eq (tgt := 123) hx hb dX1_judge_94 (by decide) (fun c_94b => ?_) (fun c_94b => ?_)
          · -- yes
            exact re_v hQ ha hx hb hr hlk hAe hP hS dX1_judge_123 (by subst e4; subst e3; first | rfl | simp [fJudge, fJudge2, fBad, fGood, c_2, c_89b, c_94b])
          · -- no
            refine lv_aload_n hx hb dX1_judge_97 rfl (lv_at hl 1 rfl) ?_
            refine va_get (D := gD Γ) (cl := vwCl) (tys := gTy Γ) (ci := 1) (v := .ref (a (b + 1))) (C := RX1) (T := TX1) (N := 9) hx hb hts iX1_judge_1 hown hK hP 0 rfl rfl 5 (Nat.le_of_ble_eq_true rfl) (hts (.fieldLink RX1 27 "DeadTimeLoop$Loop" "present" "[I") (List.mem_of_getElem? (i := 3) rfl)) (fun _ h9 => h9) rfl dX1_judge_98 ?_
            refine lv_bipush (v := 9) hx hb dX1_judge_101 (by decide) ?_
            refine lv_iload_n hx hb dX1_judge_103 rfl (lv_at hl 4 rfl) ?_
            refine lv_if_eq (tgt := 111) hx hb dX1_judge_104 (by decide) (fun _ => ?_) (fun c => absurd c_89b c)
            refine lv_iconst (v := 0) hx hb dX1_judge_111 (by decide) ?_
            refine ka_iast (D := gD Γ) (cl := vwCl) (tys := gTy Γ) hx hb hK hP hD hS 1 0 rfl rfl 9 (by decide) (by decide) (by decide) (wf := lopW Γ a b ((lNow σ), (lLoad σ), (lSeed σ), ((lBad σ) + 1), 0, (upd (lPres σ) 9 0), (lRecs σ), (lSec σ), (lWat σ))) rfl dX1_judge_112 (fun H locs hP hD hS => ?_)
            refine lv_aload_n hx hb dX1_judge_113 rfl (lv_at hl 1 rfl) ?_
            refine lv_iconst (v := 0) hx hb dX1_judge_114 (by decide) ?_
            refine va_put (D := gD Γ) (cl := vwCl) (tys := gTy Γ) (ci := 1) (v := .int 0) (ty := tyX1 3) (C := RX1) (T := TX1) (N := 9) hx hb hts iX1_judge_1 tyX1 tyX1_ok nmX1 hown hK hP hD hS 0 rfl rfl 3 (Nat.le_of_ble_eq_true rfl) (hts (.fieldLink RX1 21 "DeadTimeLoop$Loop" "badTicks" "I") (List.mem_of_getElem? (i := 1) rfl)) (fun _ h9 => h9) rfl (tyX1_ok 3 (Nat.le_of_ble_eq_true rfl)) rfl rfl (Nat.le_of_ble_eq_true rfl) dX1_judge_115 (fun H locs hP hD hS => ?_)
            have hP : va_P (gD Γ) vwCl (lopW Γ a b ((lNow σ), (lLoad σ), (lSeed σ), 0, 0, (upd (lPres σ) 9 0), (lRecs σ), (lSec σ), (lWat σ))) H := hP
            have hD : va_D A (lopW Γ a b ((lNow σ), (lLoad σ), (lSeed σ), 0, 0, (upd (lPres σ) 9 0), (lRecs σ), (lSec σ), (lWat σ))) := hD
            refine lv_aload_n hx hb dX1_judge_118 rfl (lv_at hl 1 rfl) ?_
            refine lv_iconst (v := 0) hx hb dX1_judge_119 (by decide) ?_
            refine va_put (D := gD Γ) (cl := vwCl) (tys := gTy Γ) (ci := 1) (v := .int 0) (ty := tyX1 4) (C := RX1) (T := TX1) (N := 9) hx hb hts iX1_judge_1 tyX1 tyX1_ok nmX1 hown hK hP hD hS 0 rfl rfl 4 (Nat.le_of_ble_eq_true rfl) (hts (.fieldLink RX1 24 "DeadTimeLoop$Loop" "goodTicks" "I") (List.mem_of_getElem? (i := 2) rfl)) (fun _ h9 => h9) rfl (tyX1_ok 4 (Nat.le_of_ble_eq_true rfl)) rfl rfl (Nat.le_of_ble_eq_true rfl) dX1_judge_120 (fun H locs hP hD hS => ?_)
            have hP : va_P (gD Γ) vwCl (lopW Γ a b ((lNow σ), (lLoad σ), (lSeed σ), 0, 0, (upd (lPres σ) 9 0), (lRecs σ), (lSec σ), (lWat σ))) H := hP
            have hD : va_D A (lopW Γ a b ((lNow σ), (lLoad σ), (lSeed σ), 0, 0, (upd (lPres σ) 9 0), (lRecs σ), (lSec σ), (lWat σ))) := hD
            exact re_v hQ ha hx hb hr hlk hAe hP hS dX1_judge_123 (by subst e4; subst e3; first | rfl | simp [fJudge, fJudge2, fBad, fGood, c_2, c_89b, c_94b])
      refine lv_aload_n hx hb dX1_judge_60 rfl (lv_at hl 1 rfl) ?_
      refine va_get (D := gD Γ) (cl := vwCl) (tys := gTy Γ) (ci := 1) (v := .ref (a (b + 1))) (C := RX1) (T := TX1) (N := 9) hx hb hts iX1_judge_1 hown hK hP 0 rfl rfl 5 (Nat.le_of_ble_eq_true rfl) (hts (.fieldLink RX1 27 "DeadTimeLoop$Loop" "present" "[I") (List.mem_of_getElem? (i := 3) rfl)) (fun _ h9 => h9) rfl dX1_judge_61 ?_
      refine lv_bipush (v := 9) hx hb dX1_judge_64 (by decide) ?_
      refine ka_iald (D := gD Γ) (cl := vwCl) (tys := gTy Γ) hx hb hK hP 1 0 rfl rfl 9 (by decide) (by decide) (by decide) (v := ((lPres σ) 9)) rfl dX1_judge_66 ?_
      refine lv_iconst (v := 1) hx hb dX1_judge_67 (by decide) ?_
      refine lv_icmp_ne (tgt := 85) hx hb dX1_judge_68 (by decide) (fun c_68b => ?_) (fun c_68b => ?_)
      · -- yes
        refine lv_iconst (v := 0) hx hb dX1_judge_85 (by decide) ?_
        exact hJ_86 _ (by simp [fTru, c_2, c_68b]) _ _ _ hP hD hS (lv_sub hl [1, 2, 3, 0] rfl)
      · -- no
        refine lv_aload_n hx hb dX1_judge_71 rfl (lv_at hl 1 rfl) ?_
        refine va_get (D := gD Γ) (cl := vwCl) (tys := gTy Γ) (ci := 1) (v := .int 0) (C := RX1) (T := TX1) (N := 9) hx hb hts iX1_judge_1 hown hK hP 0 rfl rfl 4 (Nat.le_of_ble_eq_true rfl) (hts (.fieldLink RX1 24 "DeadTimeLoop$Loop" "goodTicks" "I") (List.mem_of_getElem? (i := 2) rfl)) (fun _ h9 => h9) rfl dX1_judge_72 ?_
        refine lv_iconst (v := 2) hx hb dX1_judge_75 (by decide) ?_
        refine lv_iload_n hx hb dX1_judge_76 rfl (lv_at hl 3 rfl) ?_
        refine lv_imul hx hb dX1_judge_77 ?_
        refine lv_icmp_lt (tgt := 85) hx hb dX1_judge_78 (by decide) (fun c_78b => ?_) (fun c_78b => ?_)
        · -- yes
          refine lv_iconst (v := 0) hx hb dX1_judge_85 (by decide) ?_
          exact hJ_86 _ (by simp [fTru, c_2, c_68b, c_78b]) _ _ _ hP hD hS (lv_sub hl [1, 2, 3, 0] rfl)
        · -- no
          refine lv_iconst (v := 1) hx hb dX1_judge_81 (by decide) ?_
          refine lv_goto (tgt := 86) hx hb dX1_judge_82 (by decide) ?_
          exact hJ_86 _ (by simp [fTru, c_2, c_68b, c_78b]) _ _ _ hP hD hS (lv_sub hl [1, 2, 3, 0] rfl)
    refine lv_aload_n hx hb dX1_judge_36 rfl (lv_at hl 0 rfl) ?_
    refine va_get (D := gD Γ) (cl := vwCl) (tys := gTy Γ) (ci := 1) (v := .ref (a (b + 1))) (C := RX1) (T := TX1) (N := 9) hx hb hts iX1_judge_1 hown hK hP 0 rfl rfl 5 (Nat.le_of_ble_eq_true rfl) (hts (.fieldLink RX1 27 "DeadTimeLoop$Loop" "present" "[I") (List.mem_of_getElem? (i := 3) rfl)) (fun _ h9 => h9) rfl dX1_judge_37 ?_
    refine lv_bipush (v := 9) hx hb dX1_judge_40 (by decide) ?_
    refine ka_iald (D := gD Γ) (cl := vwCl) (tys := gTy Γ) hx hb hK hP 1 0 rfl rfl 9 (by decide) (by decide) (by decide) (v := ((lPres σ) 9)) rfl dX1_judge_42 ?_
    refine lv_if_ne (tgt := 58) hx hb dX1_judge_43 (by decide) (fun c_43b => ?_) (fun c_43b => ?_)
    · -- yes
      refine lv_iconst (v := 0) hx hb dX1_judge_58 (by decide) ?_
      exact hJ_59 _ (by simp [fRej, c_2, c_43b]) _ _ _ hP hD hS (lv_sub hl [0, 1, 2] rfl)
    · -- no
      refine lv_aload_n hx hb dX1_judge_46 rfl (lv_at hl 0 rfl) ?_
      refine va_get (D := gD Γ) (cl := vwCl) (tys := gTy Γ) (ci := 1) (v := .int ((lBad σ) + 1)) (C := RX1) (T := TX1) (N := 9) hx hb hts iX1_judge_1 hown hK hP 0 rfl rfl 3 (Nat.le_of_ble_eq_true rfl) (hts (.fieldLink RX1 21 "DeadTimeLoop$Loop" "badTicks" "I") (List.mem_of_getElem? (i := 1) rfl)) (fun _ h9 => h9) rfl dX1_judge_47 ?_
      refine lv_iload_n hx hb dX1_judge_50 rfl (lv_at hl 2 rfl) ?_
      refine lv_icmp_lt (tgt := 58) hx hb dX1_judge_51 (by decide) (fun c_51b => ?_) (fun c_51b => ?_)
      · -- yes
        refine lv_iconst (v := 0) hx hb dX1_judge_58 (by decide) ?_
        exact hJ_59 _ (by simp [fRej, c_2, c_43b, c_51b]) _ _ _ hP hD hS (lv_sub hl [0, 1, 2] rfl)
      · -- no
        refine lv_iconst (v := 1) hx hb dX1_judge_54 (by decide) ?_
        refine lv_goto (tgt := 59) hx hb dX1_judge_55 (by decide) ?_
        exact hJ_59 _ (by simp [fRej, c_2, c_43b, c_51b]) _ _ _ hP hD hS (lv_sub hl [0, 1, 2] rfl)
def rm_X1_outputFor : Room := { frames := 2, cells := 0, slots := 0, locals := 49 }
theorem iX1_outputFor_1 : ∀ w ∈ u_ws RX1 TX1 9, w ∈ wsX1_outputFor := fun w h => (List.mem_cons_of_mem _ (List.mem_append_left _ (List.mem_append_right _ h)))
set_option maxHeartbeats 1000000 in
set_option maxRecDepth 100000 in
theorem c_X1_outputFor (Γ : gT) (l : Launch) (a : Nat → Nat) (b : Nat) (a2 : Nat → Nat) (b2 : Nat) (σ : Lop) (v : Sett) (wanted : Int64)  : Cl Γ l yX1_outputFor wsX1_outputFor rm_X1_outputFor [.ref (a b), .long wanted, .ref (a2 b2)] (lopW Γ a b σ ++ setW Γ a2 b2 v) (fOut ((lPres σ) 2) wanted v) (lopW Γ a b σ ++ setW Γ a2 b2 v) := by
  refine Cl.of (cc := cX1_outputFor) (own := RX1) (nL := 8) (ret := (some .long)) (by decide +kernel) rfl rfl (Nat.le_of_ble_eq_true rfl) ?_
  intro p e s m args below meth c A Q H locs ls ha hAe hQ hx hb hml hr hts hown hlk hP hK hD hS hA hG hl
  have hh : Hd Γ p s m args c cX1_outputFor RX1 8 wsX1_outputFor A := ⟨⟨hx, hb, hml, hown, hts⟩, hK, hA, hG⟩
  have hl : lv_has ls 8 [(0, .ref (a b)), (1, .long wanted), (3, .ref (a2 b2))] := hl
  refine lv_lload_n hx hb dX1_outputFor_0 rfl (lv_at hl 1 rfl) ?_
  refine lv_aload_n hx hb dX1_outputFor_1 rfl (lv_at hl 2 rfl) ?_
  refine lv_bipush (v := 9) hx hb dX1_outputFor_2 (by decide) ?_
  refine ca_Vi hh hl.1 (c_X3_get Γ l a2 b2 v 9) (cwV 1 hts gX1_outputFor_X3_get rfl rfl rfl (by decide +kernel) ⟨(Nat.le_of_ble_eq_true rfl), (Nat.le_of_ble_eq_true rfl)⟩) (As := [.int 9]) (rest := [.long wanted]) rfl dX1_outputFor_4 rfl (Nat.le_of_ble_eq_true rfl) hP hD hS [9, 10] rfl rfl (q0 := 9) (ci := 3) rfl rfl rfl 2 rfl rfl (wf := lopW Γ a b σ ++ setW Γ a2 b2 v) rfl rfl ⟨Nat.zero_le _, Nat.zero_le _⟩ (fun H locs hP hD hS => ?_)
  refine lv_i2l (v := (fGet v 9).toInt64) hx hb dX1_outputFor_7 rfl ?_
  refine lv_aload_n hx hb dX1_outputFor_8 rfl (lv_at hl 2 rfl) ?_
  refine lv_bipush (v := 10) hx hb dX1_outputFor_9 (by decide) ?_
  refine ca_Vi hh hl.1 (c_X3_get Γ l a2 b2 v 10) (cwV 1 hts gX1_outputFor_X3_get rfl rfl rfl (by decide +kernel) ⟨(Nat.le_of_ble_eq_true rfl), (Nat.le_of_ble_eq_true rfl)⟩) (As := [.int 10]) (rest := [.long ((fGet v 9).toInt64), .long wanted]) rfl dX1_outputFor_11 rfl (Nat.le_of_ble_eq_true rfl) hP hD hS [9, 10] rfl rfl (q0 := 9) (ci := 3) rfl rfl rfl 2 rfl rfl (wf := lopW Γ a b σ ++ setW Γ a2 b2 v) rfl rfl ⟨Nat.zero_le _, Nat.zero_le _⟩ (fun H locs hP hD hS => ?_)
  refine lv_i2l (v := (fGet v 10).toInt64) hx hb dX1_outputFor_14 rfl ?_
  refine ca_Nl hh hl.1 (c_X6_limited Γ l wanted ((fGet v 9).toInt64) ((fGet v 10).toInt64)) ⟨va_cnB (host := RX6) 3 hts gX1_outputFor_X6_limited_n148 rfl rfl rfl hG.1.2.2.2.2.2.2.2.2 (hts (.initialized RX6) (List.mem_of_getElem? (i := 9) rfl)) (by decide +kernel) ⟨(Nat.le_of_ble_eq_true rfl), (Nat.le_of_ble_eq_true rfl)⟩, (hts (.static yX6_limited) (List.mem_of_getElem? (i := 11) rfl)), trivial⟩ (As := [.long wanted, .long ((fGet v 9).toInt64), .long ((fGet v 10).toInt64)]) (rest := []) rfl dX1_outputFor_15 rfl (Nat.le_of_ble_eq_true rfl) hP hD hS ⟨Nat.zero_le _, Nat.zero_le _⟩ (fun H locs hP hS => ?_)
  refine lv_lstore (lv' := [(4, .long (fLim wanted ((fGet v 9).toInt64) ((fGet v 10).toInt64))), (0, .ref (a b)), (1, .long wanted), (3, .ref (a2 b2))]) hx hb dX1_outputFor_18 hl (by decide) rfl (fun ls hl => ?_)
  refine lv_aload_n hx hb dX1_outputFor_20 rfl (lv_at hl 3 rfl) ?_
  refine lv_bipush (v := 11) hx hb dX1_outputFor_21 (by decide) ?_
  refine ca_Vi hh hl.1 (c_X3_get Γ l a2 b2 v 11) (cwV 1 hts gX1_outputFor_X3_get rfl rfl rfl (by decide +kernel) ⟨(Nat.le_of_ble_eq_true rfl), (Nat.le_of_ble_eq_true rfl)⟩) (As := [.int 11]) (rest := []) rfl dX1_outputFor_23 rfl (Nat.le_of_ble_eq_true rfl) hP hD hS [9, 10] rfl rfl (q0 := 9) (ci := 3) rfl rfl rfl 2 rfl rfl (wf := lopW Γ a b σ ++ setW Γ a2 b2 v) rfl rfl ⟨Nat.zero_le _, Nat.zero_le _⟩ (fun H locs hP hD hS => ?_)
  refine lv_i2l (v := (fGet v 11).toInt64) hx hb dX1_outputFor_26 rfl ?_
  refine lv_lstore (lv' := [(6, .long ((fGet v 11).toInt64)), (4, .long (fLim wanted ((fGet v 9).toInt64) ((fGet v 10).toInt64))), (0, .ref (a b)), (1, .long wanted), (3, .ref (a2 b2))]) hx hb dX1_outputFor_27 hl (by decide) rfl (fun ls hl => ?_)
  refine lv_lload hx hb dX1_outputFor_29 (lv_at hl 1 rfl) ?_
  refine lv_aload_n hx hb dX1_outputFor_31 rfl (lv_at hl 2 rfl) ?_
  refine va_get (D := gD Γ) (cl := vwCl) (tys := gTy Γ) (ci := 1) (v := .ref (a (b + 1))) (C := RX1) (T := TX1) (N := 9) hx hb hts iX1_outputFor_1 hown hK hP 0 rfl rfl 5 (Nat.le_of_ble_eq_true rfl) (hts (.fieldLink RX1 27 "DeadTimeLoop$Loop" "present" "[I") (List.mem_of_getElem? (i := 1) rfl)) (fun _ h9 => h9) rfl dX1_outputFor_32 ?_
  refine lv_iconst (v := 2) hx hb dX1_outputFor_35 (by decide) ?_
  refine ka_iald (D := gD Γ) (cl := vwCl) (tys := gTy Γ) hx hb hK hP 1 0 rfl rfl 2 (by decide) (by decide) (by decide) (v := ((lPres σ) 2)) rfl dX1_outputFor_36 ?_
  refine lv_i2l (v := ((lPres σ) 2).toInt64) hx hb dX1_outputFor_37 rfl ?_
  refine lv_lload hx hb dX1_outputFor_38 (lv_at hl 0 rfl) ?_
  refine lv_lsub hx hb dX1_outputFor_40 ?_
  refine lv_aload_n hx hb dX1_outputFor_41 rfl (lv_at hl 2 rfl) ?_
  refine va_get (D := gD Γ) (cl := vwCl) (tys := gTy Γ) (ci := 1) (v := .ref (a (b + 1))) (C := RX1) (T := TX1) (N := 9) hx hb hts iX1_outputFor_1 hown hK hP 0 rfl rfl 5 (Nat.le_of_ble_eq_true rfl) (hts (.fieldLink RX1 27 "DeadTimeLoop$Loop" "present" "[I") (List.mem_of_getElem? (i := 1) rfl)) (fun _ h9 => h9) rfl dX1_outputFor_42 ?_
  refine lv_iconst (v := 2) hx hb dX1_outputFor_45 (by decide) ?_
  refine ka_iald (D := gD Γ) (cl := vwCl) (tys := gTy Γ) hx hb hK hP 1 0 rfl rfl 2 (by decide) (by decide) (by decide) (v := ((lPres σ) 2)) rfl dX1_outputFor_46 ?_
  refine lv_i2l (v := ((lPres σ) 2).toInt64) hx hb dX1_outputFor_47 rfl ?_
  refine lv_lload hx hb dX1_outputFor_48 (lv_at hl 0 rfl) ?_
  refine lv_ladd hx hb dX1_outputFor_50 ?_
  refine ca_Nl hh hl.1 (c_X6_limited Γ l (fLim wanted ((fGet v 9).toInt64) ((fGet v 10).toInt64)) ((((lPres σ) 2).toInt64) - ((fGet v 11).toInt64)) ((((lPres σ) 2).toInt64) + ((fGet v 11).toInt64))) ⟨va_cnB (host := RX6) 3 hts gX1_outputFor_X6_limited_n148 rfl rfl rfl hG.1.2.2.2.2.2.2.2.2 (hts (.initialized RX6) (List.mem_of_getElem? (i := 9) rfl)) (by decide +kernel) ⟨(Nat.le_of_ble_eq_true rfl), (Nat.le_of_ble_eq_true rfl)⟩, (hts (.static yX6_limited) (List.mem_of_getElem? (i := 11) rfl)), trivial⟩ (As := [.long (fLim wanted ((fGet v 9).toInt64) ((fGet v 10).toInt64)), .long ((((lPres σ) 2).toInt64) - ((fGet v 11).toInt64)), .long ((((lPres σ) 2).toInt64) + ((fGet v 11).toInt64))]) (rest := []) rfl dX1_outputFor_51 rfl (Nat.le_of_ble_eq_true rfl) hP hD hS ⟨Nat.zero_le _, Nat.zero_le _⟩ (fun H locs hP hS => ?_)
  exact re_l hQ ha hx hb hr hlk hAe hP hS dX1_outputFor_54 (by skip; first | rfl | simp []) (by skip; first | rfl | simp [])
def rm_X1_moveOn : Room := { frames := 3, cells := 0, slots := 0, locals := 73 }
theorem iX1_moveOn_1 : ∀ w ∈ u_ws RX1 TX1 9, w ∈ wsX1_moveOn := fun w h => (List.mem_cons_of_mem _ (List.mem_append_left _ (List.mem_append_right _ h)))
set_option maxHeartbeats 1000000 in
set_option maxRecDepth 100000 in
theorem c_X1_moveOn (Γ : gT) (l : Launch) (a : Nat → Nat) (b : Nat) (a2 : Nat → Nat) (b2 : Nat) (σ : Lop) (v : Sett)  : Cv Γ l yX1_moveOn wsX1_moveOn rm_X1_moveOn [.ref (a b), .ref (a2 b2)] (lopW Γ a b σ ++ setW Γ a2 b2 v) (lopW Γ a b (fMove σ v) ++ setW Γ a2 b2 v) := by
  refine Cv.of (cc := cX1_moveOn) (own := RX1) (nL := 8) (ret := none) (by decide +kernel) rfl rfl (Nat.le_of_ble_eq_true rfl) ?_
  intro p e s m args below meth c A Q H locs ls ha hAe hQ hx hb hml hr hts hown hlk hP hK hD hS hA hG hl
  have hh : Hd Γ p s m args c cX1_moveOn RX1 8 wsX1_moveOn A := ⟨⟨hx, hb, hml, hown, hts⟩, hK, hA, hG⟩
  have hl : lv_has ls 8 [(0, .ref (a b)), (1, .ref (a2 b2))] := hl
  refine lv_aload_n hx hb dX1_moveOn_0 rfl (lv_at hl 0 rfl) ?_
  refine lv_iconst (v := 2) hx hb dX1_moveOn_1 (by decide) ?_
  refine lv_aload_n hx hb dX1_moveOn_2 rfl (lv_at hl 0 rfl) ?_
  refine va_get (D := gD Γ) (cl := vwCl) (tys := gTy Γ) (ci := 1) (v := .ref (a (b + 1))) (C := RX1) (T := TX1) (N := 9) hx hb hts iX1_moveOn_1 hown hK hP 0 rfl rfl 5 (Nat.le_of_ble_eq_true rfl) (hts (.fieldLink RX1 27 "DeadTimeLoop$Loop" "present" "[I") (List.mem_of_getElem? (i := 1) rfl)) (fun _ h9 => h9) rfl dX1_moveOn_3 ?_
  refine lv_iconst (v := 2) hx hb dX1_moveOn_6 (by decide) ?_
  refine ka_iald (D := gD Γ) (cl := vwCl) (tys := gTy Γ) hx hb hK hP 1 0 rfl rfl 2 (by decide) (by decide) (by decide) (v := ((lPres σ) 2)) rfl dX1_moveOn_7 ?_
  refine lv_aload_n hx hb dX1_moveOn_8 rfl (lv_at hl 1 rfl) ?_
  refine lv_iconst (v := 4) hx hb dX1_moveOn_9 (by decide) ?_
  refine ca_Vi hh hl.1 (c_X3_get Γ l a2 b2 v 4) (cwV 1 hts gX1_moveOn_X3_get rfl rfl rfl (by decide +kernel) ⟨(Nat.le_of_ble_eq_true rfl), (Nat.le_of_ble_eq_true rfl)⟩) (As := [.int 4]) (rest := [.int ((lPres σ) 2), .int 2, .ref (a b)]) rfl dX1_moveOn_10 rfl (Nat.le_of_ble_eq_true rfl) hP hD hS [9, 10] rfl rfl (q0 := 9) (ci := 3) rfl rfl rfl 2 rfl rfl (wf := lopW Γ a b σ ++ setW Γ a2 b2 v) rfl rfl ⟨Nat.zero_le _, Nat.zero_le _⟩ (fun H locs hP hD hS => ?_)
  refine ca_Vi hh hl.1 (c_X1_delayed Γ l a b σ 2 ((lPres σ) 2) (fGet v 4)) (cwV 3 hts gX1_moveOn_X1_delayed rfl rfl rfl (by decide +kernel) ⟨(Nat.le_of_ble_eq_true rfl), (Nat.le_of_ble_eq_true rfl)⟩) (As := [.int 2, .int ((lPres σ) 2), .int (fGet v 4)]) (rest := []) rfl dX1_moveOn_13 rfl (Nat.le_of_ble_eq_true rfl) hP hD hS [0, 1, 2, 3, 4, 5, 6, 7, 8] rfl rfl (q0 := 0) (ci := 1) rfl rfl rfl 9 rfl rfl (wf := lopW Γ a b σ ++ setW Γ a2 b2 v) rfl rfl ⟨Nat.zero_le _, Nat.zero_le _⟩ (fun H locs hP hD hS => ?_)
  refine lv_aload_n hx hb dX1_moveOn_16 rfl (lv_at hl 0 rfl) ?_
  refine va_get (D := gD Γ) (cl := vwCl) (tys := gTy Γ) (ci := 1) (v := .int (lLoad σ)) (C := RX1) (T := TX1) (N := 9) hx hb hts iX1_moveOn_1 hown hK hP 0 rfl rfl 1 (Nat.le_of_ble_eq_true rfl) (hts (.fieldLink RX1 15 "DeadTimeLoop$Loop" "load" "I") (List.mem_of_getElem? (i := 2) rfl)) (fun _ h9 => h9) rfl dX1_moveOn_17 ?_
  refine lv_iadd hx hb dX1_moveOn_20 ?_
  refine lv_i2l (v := ((fDelay (lNow σ) (lRecs σ) 2 ((lPres σ) 2) (fGet v 4)) + (lLoad σ)).toInt64) hx hb dX1_moveOn_21 rfl ?_
  refine lv_lstore_n (lv' := [(2, .long (((fDelay (lNow σ) (lRecs σ) 2 ((lPres σ) 2) (fGet v 4)) + (lLoad σ)).toInt64)), (0, .ref (a b)), (1, .ref (a2 b2))]) hx hb dX1_moveOn_22 rfl hl (by decide) rfl (fun ls hl => ?_)
  refine lv_aload_n hx hb dX1_moveOn_23 rfl (lv_at hl 2 rfl) ?_
  refine lv_iconst (v := 2) hx hb dX1_moveOn_24 (by decide) ?_
  refine ca_Vi hh hl.1 (c_X3_get Γ l a2 b2 v 2) (cwV 1 hts gX1_moveOn_X3_get rfl rfl rfl (by decide +kernel) ⟨(Nat.le_of_ble_eq_true rfl), (Nat.le_of_ble_eq_true rfl)⟩) (As := [.int 2]) (rest := []) rfl dX1_moveOn_25 rfl (Nat.le_of_ble_eq_true rfl) hP hD hS [9, 10] rfl rfl (q0 := 9) (ci := 3) rfl rfl rfl 2 rfl rfl (wf := lopW Γ a b σ ++ setW Γ a2 b2 v) rfl rfl ⟨Nat.zero_le _, Nat.zero_le _⟩ (fun H locs hP hD hS => ?_)
  refine lv_i2l (v := (fGet v 2).toInt64) hx hb dX1_moveOn_28 rfl ?_
  refine lv_lload_n hx hb dX1_moveOn_29 rfl (lv_at hl 0 rfl) ?_
  refine lv_lmul hx hb dX1_moveOn_30 ?_
  refine ca_Nl hh hl.1 (c_X6_thousandth Γ l (((fGet v 2).toInt64) * (((fDelay (lNow σ) (lRecs σ) 2 ((lPres σ) 2) (fGet v 4)) + (lLoad σ)).toInt64))) ⟨va_cnB (host := RX6) 1 hts gX1_moveOn_X6_thousandth_n140 rfl rfl rfl hG.1.2.2.2.2.2.2.2.1 (hts (.initialized RX6) (List.mem_of_getElem? (i := 11) rfl)) (by decide +kernel) ⟨(Nat.le_of_ble_eq_true rfl), (Nat.le_of_ble_eq_true rfl)⟩, (hts (.static yX6_thousandth) (List.mem_of_getElem? (i := 33) rfl)), trivial⟩ (As := [.long (((fGet v 2).toInt64) * (((fDelay (lNow σ) (lRecs σ) 2 ((lPres σ) 2) (fGet v 4)) + (lLoad σ)).toInt64))]) (rest := []) rfl dX1_moveOn_31 rfl (Nat.le_of_ble_eq_true rfl) hP hD hS ⟨Nat.zero_le _, Nat.zero_le _⟩ (fun H locs hP hS => ?_)
  refine lv_lstore (lv' := [(4, .long (fThou (((fGet v 2).toInt64) * (((fDelay (lNow σ) (lRecs σ) 2 ((lPres σ) 2) (fGet v 4)) + (lLoad σ)).toInt64)))), (2, .long (((fDelay (lNow σ) (lRecs σ) 2 ((lPres σ) 2) (fGet v 4)) + (lLoad σ)).toInt64)), (0, .ref (a b)), (1, .ref (a2 b2))]) hx hb dX1_moveOn_34 hl (by decide) rfl (fun ls hl => ?_)
  refine lv_aload_n hx hb dX1_moveOn_36 rfl (lv_at hl 3 rfl) ?_
  refine lv_iconst (v := 5) hx hb dX1_moveOn_37 (by decide) ?_
  refine ca_Vi hh hl.1 (c_X3_get Γ l a2 b2 v 5) (cwV 1 hts gX1_moveOn_X3_get rfl rfl rfl (by decide +kernel) ⟨(Nat.le_of_ble_eq_true rfl), (Nat.le_of_ble_eq_true rfl)⟩) (As := [.int 5]) (rest := []) rfl dX1_moveOn_38 rfl (Nat.le_of_ble_eq_true rfl) hP hD hS [9, 10] rfl rfl (q0 := 9) (ci := 3) rfl rfl rfl 2 rfl rfl (wf := lopW Γ a b σ ++ setW Γ a2 b2 v) rfl rfl ⟨Nat.zero_le _, Nat.zero_le _⟩ (fun H locs hP hD hS => ?_)
  refine lv_i2l (v := (fGet v 5).toInt64) hx hb dX1_moveOn_41 rfl ?_
  refine lv_aload_n hx hb dX1_moveOn_42 rfl (lv_at hl 2 rfl) ?_
  refine va_get (D := gD Γ) (cl := vwCl) (tys := gTy Γ) (ci := 1) (v := .ref (a (b + 1))) (C := RX1) (T := TX1) (N := 9) hx hb hts iX1_moveOn_1 hown hK hP 0 rfl rfl 5 (Nat.le_of_ble_eq_true rfl) (hts (.fieldLink RX1 27 "DeadTimeLoop$Loop" "present" "[I") (List.mem_of_getElem? (i := 1) rfl)) (fun _ h9 => h9) rfl dX1_moveOn_43 ?_
  refine lv_iconst (v := 2) hx hb dX1_moveOn_46 (by decide) ?_
  refine ka_iald (D := gD Γ) (cl := vwCl) (tys := gTy Γ) hx hb hK hP 1 0 rfl rfl 2 (by decide) (by decide) (by decide) (v := ((lPres σ) 2)) rfl dX1_moveOn_47 ?_
  refine lv_i2l (v := ((lPres σ) 2).toInt64) hx hb dX1_moveOn_48 rfl ?_
  refine lv_lmul hx hb dX1_moveOn_49 ?_
  refine ca_Nl hh hl.1 (c_X6_thousandth Γ l (((fGet v 5).toInt64) * (((lPres σ) 2).toInt64))) ⟨va_cnB (host := RX6) 1 hts gX1_moveOn_X6_thousandth_n140 rfl rfl rfl hG.1.2.2.2.2.2.2.2.1 (hts (.initialized RX6) (List.mem_of_getElem? (i := 11) rfl)) (by decide +kernel) ⟨(Nat.le_of_ble_eq_true rfl), (Nat.le_of_ble_eq_true rfl)⟩, (hts (.static yX6_thousandth) (List.mem_of_getElem? (i := 33) rfl)), trivial⟩ (As := [.long (((fGet v 5).toInt64) * (((lPres σ) 2).toInt64))]) (rest := []) rfl dX1_moveOn_50 rfl (Nat.le_of_ble_eq_true rfl) hP hD hS ⟨Nat.zero_le _, Nat.zero_le _⟩ (fun H locs hP hS => ?_)
  refine lv_lstore (lv' := [(6, .long (fThou (((fGet v 5).toInt64) * (((lPres σ) 2).toInt64)))), (4, .long (fThou (((fGet v 2).toInt64) * (((fDelay (lNow σ) (lRecs σ) 2 ((lPres σ) 2) (fGet v 4)) + (lLoad σ)).toInt64)))), (2, .long (((fDelay (lNow σ) (lRecs σ) 2 ((lPres σ) 2) (fGet v 4)) + (lLoad σ)).toInt64)), (0, .ref (a b)), (1, .ref (a2 b2))]) hx hb dX1_moveOn_53 hl (by decide) rfl (fun ls hl => ?_)
  refine lv_aload_n hx hb dX1_moveOn_55 rfl (lv_at hl 3 rfl) ?_
  refine va_get (D := gD Γ) (cl := vwCl) (tys := gTy Γ) (ci := 1) (v := .ref (a (b + 1))) (C := RX1) (T := TX1) (N := 9) hx hb hts iX1_moveOn_1 hown hK hP 0 rfl rfl 5 (Nat.le_of_ble_eq_true rfl) (hts (.fieldLink RX1 27 "DeadTimeLoop$Loop" "present" "[I") (List.mem_of_getElem? (i := 1) rfl)) (fun _ h9 => h9) rfl dX1_moveOn_56 ?_
  refine lv_bipush (v := 8) hx hb dX1_moveOn_59 (by decide) ?_
  refine lv_aload_n hx hb dX1_moveOn_61 rfl (lv_at hl 3 rfl) ?_
  refine va_get (D := gD Γ) (cl := vwCl) (tys := gTy Γ) (ci := 1) (v := .ref (a (b + 1))) (C := RX1) (T := TX1) (N := 9) hx hb hts iX1_moveOn_1 hown hK hP 0 rfl rfl 5 (Nat.le_of_ble_eq_true rfl) (hts (.fieldLink RX1 27 "DeadTimeLoop$Loop" "present" "[I") (List.mem_of_getElem? (i := 1) rfl)) (fun _ h9 => h9) rfl dX1_moveOn_62 ?_
  refine lv_bipush (v := 8) hx hb dX1_moveOn_65 (by decide) ?_
  refine ka_iald (D := gD Γ) (cl := vwCl) (tys := gTy Γ) hx hb hK hP 1 0 rfl rfl 8 (by decide) (by decide) (by decide) (v := ((lPres σ) 8)) rfl dX1_moveOn_67 ?_
  refine lv_i2l (v := ((lPres σ) 8).toInt64) hx hb dX1_moveOn_68 rfl ?_
  refine lv_lload hx hb dX1_moveOn_69 (lv_at hl 1 rfl) ?_
  refine lv_sipush (v := 1000) hx hb dX1_moveOn_71 (by decide) ?_
  refine lv_aload_n hx hb dX1_moveOn_74 rfl (lv_at hl 4 rfl) ?_
  refine lv_iconst (v := 3) hx hb dX1_moveOn_75 (by decide) ?_
  refine ca_Vi hh hl.1 (c_X3_get Γ l a2 b2 v 3) (cwV 1 hts gX1_moveOn_X3_get rfl rfl rfl (by decide +kernel) ⟨(Nat.le_of_ble_eq_true rfl), (Nat.le_of_ble_eq_true rfl)⟩) (As := [.int 3]) (rest := [.int 1000, .long (fThou (((fGet v 2).toInt64) * (((fDelay (lNow σ) (lRecs σ) 2 ((lPres σ) 2) (fGet v 4)) + (lLoad σ)).toInt64))), .long (((lPres σ) 8).toInt64), .int 8, .ref (a (b + 1))]) rfl dX1_moveOn_76 rfl (Nat.le_of_ble_eq_true rfl) hP hD hS [9, 10] rfl rfl (q0 := 9) (ci := 3) rfl rfl rfl 2 rfl rfl (wf := lopW Γ a b σ ++ setW Γ a2 b2 v) rfl rfl ⟨Nat.zero_le _, Nat.zero_le _⟩ (fun H locs hP hD hS => ?_)
  refine lv_isub hx hb dX1_moveOn_79 ?_
  refine lv_i2l (v := (1000 - (fGet v 3)).toInt64) hx hb dX1_moveOn_80 rfl ?_
  refine ca_Ni hh hl.1 (c_X6_stepped Γ l (((lPres σ) 8).toInt64) (fThou (((fGet v 2).toInt64) * (((fDelay (lNow σ) (lRecs σ) 2 ((lPres σ) 2) (fGet v 4)) + (lLoad σ)).toInt64))) ((1000 - (fGet v 3)).toInt64)) ⟨va_cnB (host := RX6) 3 hts gX1_moveOn_X6_stepped_n97 rfl rfl rfl hG.1.2.2.2.2.2.2.1 (hts (.initialized RX6) (List.mem_of_getElem? (i := 11) rfl)) (by decide +kernel) ⟨(Nat.le_of_ble_eq_true rfl), (Nat.le_of_ble_eq_true rfl)⟩, (hts (.static yX6_stepped) (List.mem_of_getElem? (i := 37) rfl)), trivial⟩ (As := [.long (((lPres σ) 8).toInt64), .long (fThou (((fGet v 2).toInt64) * (((fDelay (lNow σ) (lRecs σ) 2 ((lPres σ) 2) (fGet v 4)) + (lLoad σ)).toInt64))), .long ((1000 - (fGet v 3)).toInt64)]) (rest := [.int 8, .ref (a (b + 1))]) rfl dX1_moveOn_81 rfl (Nat.le_of_ble_eq_true rfl) hP hD hS ⟨Nat.zero_le _, Nat.zero_le _⟩ (fun H locs hP hS => ?_)
  refine ka_iast (D := gD Γ) (cl := vwCl) (tys := gTy Γ) hx hb hK hP hD hS 1 0 rfl rfl 8 (by decide) (by decide) (by decide) (wf := lopW Γ a b ((lNow σ), (lLoad σ), (lSeed σ), (lBad σ), (lGood σ), (upd (lPres σ) 8 (fStep (((lPres σ) 8).toInt64) (fThou (((fGet v 2).toInt64) * (((fDelay (lNow σ) (lRecs σ) 2 ((lPres σ) 2) (fGet v 4)) + (lLoad σ)).toInt64))) ((1000 - (fGet v 3)).toInt64))), (lRecs σ), (lSec σ), (lWat σ)) ++ setW Γ a2 b2 v) rfl dX1_moveOn_84 (fun H locs hP hD hS => ?_)
  refine lv_aload_n hx hb dX1_moveOn_85 rfl (lv_at hl 3 rfl) ?_
  refine va_get (D := gD Γ) (cl := vwCl) (tys := gTy Γ) (ci := 1) (v := .ref (a (b + 1))) (C := RX1) (T := TX1) (N := 9) hx hb hts iX1_moveOn_1 hown hK hP 0 rfl rfl 5 (Nat.le_of_ble_eq_true rfl) (hts (.fieldLink RX1 27 "DeadTimeLoop$Loop" "present" "[I") (List.mem_of_getElem? (i := 1) rfl)) (fun _ h9 => h9) rfl dX1_moveOn_86 ?_
  refine lv_iconst (v := 3) hx hb dX1_moveOn_89 (by decide) ?_
  refine lv_aload_n hx hb dX1_moveOn_90 rfl (lv_at hl 3 rfl) ?_
  refine va_get (D := gD Γ) (cl := vwCl) (tys := gTy Γ) (ci := 1) (v := .ref (a (b + 1))) (C := RX1) (T := TX1) (N := 9) hx hb hts iX1_moveOn_1 hown hK hP 0 rfl rfl 5 (Nat.le_of_ble_eq_true rfl) (hts (.fieldLink RX1 27 "DeadTimeLoop$Loop" "present" "[I") (List.mem_of_getElem? (i := 1) rfl)) (fun _ h9 => h9) rfl dX1_moveOn_91 ?_
  refine lv_iconst (v := 3) hx hb dX1_moveOn_94 (by decide) ?_
  refine ka_iald (D := gD Γ) (cl := vwCl) (tys := gTy Γ) hx hb hK hP 1 0 rfl rfl 3 (by decide) (by decide) (by decide) (v := ((lPres σ) 3)) rfl dX1_moveOn_95 ?_
  refine lv_i2l (v := ((lPres σ) 3).toInt64) hx hb dX1_moveOn_96 rfl ?_
  refine lv_lload hx hb dX1_moveOn_97 (lv_at hl 0 rfl) ?_
  refine lv_sipush (v := 1000) hx hb dX1_moveOn_99 (by decide) ?_
  refine lv_aload_n hx hb dX1_moveOn_102 rfl (lv_at hl 4 rfl) ?_
  refine lv_bipush (v := 6) hx hb dX1_moveOn_103 (by decide) ?_
  refine ca_Vi hh hl.1 (c_X3_get Γ l a2 b2 v 6) (cwV 1 hts gX1_moveOn_X3_get rfl rfl rfl (by decide +kernel) ⟨(Nat.le_of_ble_eq_true rfl), (Nat.le_of_ble_eq_true rfl)⟩) (As := [.int 6]) (rest := [.int 1000, .long (fThou (((fGet v 5).toInt64) * (((lPres σ) 2).toInt64))), .long (((lPres σ) 3).toInt64), .int 3, .ref (a (b + 1))]) rfl dX1_moveOn_105 rfl (Nat.le_of_ble_eq_true rfl) hP hD hS [9, 10] rfl rfl (q0 := 9) (ci := 3) rfl rfl rfl 2 rfl rfl (wf := lopW Γ a b ((lNow σ), (lLoad σ), (lSeed σ), (lBad σ), (lGood σ), (upd (lPres σ) 8 (fStep (((lPres σ) 8).toInt64) (fThou (((fGet v 2).toInt64) * (((fDelay (lNow σ) (lRecs σ) 2 ((lPres σ) 2) (fGet v 4)) + (lLoad σ)).toInt64))) ((1000 - (fGet v 3)).toInt64))), (lRecs σ), (lSec σ), (lWat σ)) ++ setW Γ a2 b2 v) rfl rfl ⟨Nat.zero_le _, Nat.zero_le _⟩ (fun H locs hP hD hS => ?_)
  refine lv_isub hx hb dX1_moveOn_108 ?_
  refine lv_i2l (v := (1000 - (fGet v 6)).toInt64) hx hb dX1_moveOn_109 rfl ?_
  refine ca_Ni hh hl.1 (c_X6_stepped Γ l (((lPres σ) 3).toInt64) (fThou (((fGet v 5).toInt64) * (((lPres σ) 2).toInt64))) ((1000 - (fGet v 6)).toInt64)) ⟨va_cnB (host := RX6) 3 hts gX1_moveOn_X6_stepped_n97 rfl rfl rfl hG.1.2.2.2.2.2.2.1 (hts (.initialized RX6) (List.mem_of_getElem? (i := 11) rfl)) (by decide +kernel) ⟨(Nat.le_of_ble_eq_true rfl), (Nat.le_of_ble_eq_true rfl)⟩, (hts (.static yX6_stepped) (List.mem_of_getElem? (i := 37) rfl)), trivial⟩ (As := [.long (((lPres σ) 3).toInt64), .long (fThou (((fGet v 5).toInt64) * (((lPres σ) 2).toInt64))), .long ((1000 - (fGet v 6)).toInt64)]) (rest := [.int 3, .ref (a (b + 1))]) rfl dX1_moveOn_110 rfl (Nat.le_of_ble_eq_true rfl) hP hD hS ⟨Nat.zero_le _, Nat.zero_le _⟩ (fun H locs hP hS => ?_)
  refine ka_iast (D := gD Γ) (cl := vwCl) (tys := gTy Γ) hx hb hK hP hD hS 1 0 rfl rfl 3 (by decide) (by decide) (by decide) (wf := lopW Γ a b ((lNow σ), (lLoad σ), (lSeed σ), (lBad σ), (lGood σ), (upd (upd (lPres σ) 8 (fStep (((lPres σ) 8).toInt64) (fThou (((fGet v 2).toInt64) * (((fDelay (lNow σ) (lRecs σ) 2 ((lPres σ) 2) (fGet v 4)) + (lLoad σ)).toInt64))) ((1000 - (fGet v 3)).toInt64))) 3 (fStep (((lPres σ) 3).toInt64) (fThou (((fGet v 5).toInt64) * (((lPres σ) 2).toInt64))) ((1000 - (fGet v 6)).toInt64))), (lRecs σ), (lSec σ), (lWat σ)) ++ setW Γ a2 b2 v) rfl dX1_moveOn_113 (fun H locs hP hD hS => ?_)
  refine lv_aload_n hx hb dX1_moveOn_114 rfl (lv_at hl 3 rfl) ?_
  refine lv_dup hx hb dX1_moveOn_115 rfl ?_
  refine va_get (D := gD Γ) (cl := vwCl) (tys := gTy Γ) (ci := 1) (v := .int (lNow σ)) (C := RX1) (T := TX1) (N := 9) hx hb hts iX1_moveOn_1 hown hK hP 0 rfl rfl 0 (Nat.le_of_ble_eq_true rfl) (hts (.fieldLink RX1 9 "DeadTimeLoop$Loop" "now" "I") (List.mem_of_getElem? (i := 3) rfl)) (fun _ h9 => h9) rfl dX1_moveOn_116 ?_
  refine lv_iconst (v := 1) hx hb dX1_moveOn_119 (by decide) ?_
  refine lv_iadd hx hb dX1_moveOn_120 ?_
  refine va_put (D := gD Γ) (cl := vwCl) (tys := gTy Γ) (ci := 1) (v := .int ((lNow σ) + 1)) (ty := tyX1 0) (C := RX1) (T := TX1) (N := 9) hx hb hts iX1_moveOn_1 tyX1 tyX1_ok nmX1 hown hK hP hD hS 0 rfl rfl 0 (Nat.le_of_ble_eq_true rfl) (hts (.fieldLink RX1 9 "DeadTimeLoop$Loop" "now" "I") (List.mem_of_getElem? (i := 3) rfl)) (fun _ h9 => h9) rfl (tyX1_ok 0 (Nat.le_of_ble_eq_true rfl)) rfl rfl (Nat.le_of_ble_eq_true rfl) dX1_moveOn_121 (fun H locs hP hD hS => ?_)
  have hP : va_P (gD Γ) vwCl (lopW Γ a b (((lNow σ) + 1), (lLoad σ), (lSeed σ), (lBad σ), (lGood σ), (upd (upd (lPres σ) 8 (fStep (((lPres σ) 8).toInt64) (fThou (((fGet v 2).toInt64) * (((fDelay (lNow σ) (lRecs σ) 2 ((lPres σ) 2) (fGet v 4)) + (lLoad σ)).toInt64))) ((1000 - (fGet v 3)).toInt64))) 3 (fStep (((lPres σ) 3).toInt64) (fThou (((fGet v 5).toInt64) * (((lPres σ) 2).toInt64))) ((1000 - (fGet v 6)).toInt64))), (lRecs σ), (lSec σ), (lWat σ)) ++ setW Γ a2 b2 v) H := hP
  have hD : va_D A (lopW Γ a b (((lNow σ) + 1), (lLoad σ), (lSeed σ), (lBad σ), (lGood σ), (upd (upd (lPres σ) 8 (fStep (((lPres σ) 8).toInt64) (fThou (((fGet v 2).toInt64) * (((fDelay (lNow σ) (lRecs σ) 2 ((lPres σ) 2) (fGet v 4)) + (lLoad σ)).toInt64))) ((1000 - (fGet v 3)).toInt64))) 3 (fStep (((lPres σ) 3).toInt64) (fThou (((fGet v 5).toInt64) * (((lPres σ) 2).toInt64))) ((1000 - (fGet v 6)).toInt64))), (lRecs σ), (lSec σ), (lWat σ)) ++ setW Γ a2 b2 v) := hD
  exact re_v hQ ha hx hb hr hlk hAe hP hS dX1_moveOn_124 (by skip; first | rfl | simp [])
